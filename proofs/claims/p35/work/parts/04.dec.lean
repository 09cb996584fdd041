theorem dX0_init_0 : decode cX0_init 0 = .ok (.aload_n 0, 1) := by decide +kernel
theorem dX0_init_1 : decode cX0_init 1 = .ok (.invokespecial 3, 3) := by decide +kernel
theorem dX0_init_4 : decode cX0_init 4 = .ok (.aload_n 0, 1) := by decide +kernel
theorem dX0_init_5 : decode cX0_init 5 = .ok (.new 9, 3) := by decide +kernel
theorem dX0_init_8 : decode cX0_init 8 = .ok (.dup, 1) := by decide +kernel
theorem dX0_init_9 : decode cX0_init 9 = .ok (.invokespecial 11, 3) := by decide +kernel
theorem dX0_init_12 : decode cX0_init 12 = .ok (.putfield 12, 3) := by decide +kernel
theorem dX0_init_15 : decode cX0_init 15 = .ok (.aload_n 0, 1) := by decide +kernel
theorem dX0_init_16 : decode cX0_init 16 = .ok (.new 18, 3) := by decide +kernel
theorem dX0_init_19 : decode cX0_init 19 = .ok (.dup, 1) := by decide +kernel
theorem dX0_init_20 : decode cX0_init 20 = .ok (.invokespecial 20, 3) := by decide +kernel
theorem dX0_init_23 : decode cX0_init 23 = .ok (.putfield 21, 3) := by decide +kernel
theorem dX0_init_26 : decode cX0_init 26 = .ok (.aload_n 0, 1) := by decide +kernel
theorem dX0_init_27 : decode cX0_init 27 = .ok (.new 25, 3) := by decide +kernel
theorem dX0_init_30 : decode cX0_init 30 = .ok (.dup, 1) := by decide +kernel
theorem dX0_init_31 : decode cX0_init 31 = .ok (.iload_n 1, 1) := by decide +kernel
theorem dX0_init_32 : decode cX0_init 32 = .ok (.invokespecial 27, 3) := by decide +kernel
theorem dX0_init_35 : decode cX0_init 35 = .ok (.putfield 30, 3) := by decide +kernel
theorem dX0_init_38 : decode cX0_init 38 = .ok (.return_, 1) := by decide +kernel
theorem dX0_run_0 : decode cX0_run 0 = .ok (.aload_n 0, 1) := by decide +kernel
theorem dX0_run_1 : decode cX0_run 1 = .ok (.getfield 12, 3) := by decide +kernel
theorem dX0_run_4 : decode cX0_run 4 = .ok (.aload_n 1, 1) := by decide +kernel
theorem dX0_run_5 : decode cX0_run 5 = .ok (.iload_n 2, 1) := by decide +kernel
theorem dX0_run_6 : decode cX0_run 6 = .ok (.iload_n 3, 1) := by decide +kernel
theorem dX0_run_7 : decode cX0_run 7 = .ok (.invokevirtual 34, 3) := by decide +kernel
theorem dX0_run_10 : decode cX0_run 10 = .ok (.aload_n 0, 1) := by decide +kernel
theorem dX0_run_11 : decode cX0_run 11 = .ok (.getfield 21, 3) := by decide +kernel
theorem dX0_run_14 : decode cX0_run 14 = .ok (.aload_n 1, 1) := by decide +kernel
theorem dX0_run_15 : decode cX0_run 15 = .ok (.aload_n 0, 1) := by decide +kernel
theorem dX0_run_16 : decode cX0_run 16 = .ok (.getfield 12, 3) := by decide +kernel
theorem dX0_run_19 : decode cX0_run 19 = .ok (.invokevirtual 38, 3) := by decide +kernel
theorem dX0_run_22 : decode cX0_run 22 = .ok (.aload_n 0, 1) := by decide +kernel
theorem dX0_run_23 : decode cX0_run 23 = .ok (.getfield 21, 3) := by decide +kernel
theorem dX0_run_26 : decode cX0_run 26 = .ok (.aload_n 1, 1) := by decide +kernel
theorem dX0_run_27 : decode cX0_run 27 = .ok (.aload_n 0, 1) := by decide +kernel
theorem dX0_run_28 : decode cX0_run 28 = .ok (.getfield 12, 3) := by decide +kernel
theorem dX0_run_31 : decode cX0_run 31 = .ok (.invokevirtual 42, 3) := by decide +kernel
theorem dX0_run_34 : decode cX0_run 34 = .ok (.aload_n 0, 1) := by decide +kernel
theorem dX0_run_35 : decode cX0_run 35 = .ok (.getfield 21, 3) := by decide +kernel
theorem dX0_run_38 : decode cX0_run 38 = .ok (.aload_n 0, 1) := by decide +kernel
theorem dX0_run_39 : decode cX0_run 39 = .ok (.getfield 12, 3) := by decide +kernel
theorem dX0_run_42 : decode cX0_run 42 = .ok (.invokevirtual 45, 3) := by decide +kernel
theorem dX0_run_45 : decode cX0_run 45 = .ok (.aload_n 0, 1) := by decide +kernel
theorem dX0_run_46 : decode cX0_run 46 = .ok (.getfield 21, 3) := by decide +kernel
theorem dX0_run_49 : decode cX0_run 49 = .ok (.aload_n 1, 1) := by decide +kernel
theorem dX0_run_50 : decode cX0_run 50 = .ok (.aload_n 0, 1) := by decide +kernel
theorem dX0_run_51 : decode cX0_run 51 = .ok (.getfield 12, 3) := by decide +kernel
theorem dX0_run_54 : decode cX0_run 54 = .ok (.invokevirtual 49, 3) := by decide +kernel
theorem dX0_run_57 : decode cX0_run 57 = .ok (.aload_n 0, 1) := by decide +kernel
theorem dX0_run_58 : decode cX0_run 58 = .ok (.getfield 30, 3) := by decide +kernel
theorem dX0_run_61 : decode cX0_run 61 = .ok (.aload_n 1, 1) := by decide +kernel
theorem dX0_run_62 : decode cX0_run 62 = .ok (.aload_n 0, 1) := by decide +kernel
theorem dX0_run_63 : decode cX0_run 63 = .ok (.getfield 12, 3) := by decide +kernel
theorem dX0_run_66 : decode cX0_run 66 = .ok (.aload_n 0, 1) := by decide +kernel
theorem dX0_run_67 : decode cX0_run 67 = .ok (.getfield 21, 3) := by decide +kernel
theorem dX0_run_70 : decode cX0_run 70 = .ok (.invokevirtual 52, 3) := by decide +kernel
theorem dX0_run_73 : decode cX0_run 73 = .ok (.return_, 1) := by decide +kernel
theorem dX0_countLoans_0 : decode cX0_countLoans 0 = .ok (.iconst 0, 1) := by decide +kernel
theorem dX0_countLoans_1 : decode cX0_countLoans 1 = .ok (.istore_n 2, 1) := by decide +kernel
theorem dX0_countLoans_2 : decode cX0_countLoans 2 = .ok (.iconst 0, 1) := by decide +kernel
theorem dX0_countLoans_3 : decode cX0_countLoans 3 = .ok (.istore_n 3, 1) := by decide +kernel
theorem dX0_countLoans_4 : decode cX0_countLoans 4 = .ok (.iload_n 3, 1) := by decide +kernel
theorem dX0_countLoans_5 : decode cX0_countLoans 5 = .ok (.aload_n 1, 1) := by decide +kernel
theorem dX0_countLoans_6 : decode cX0_countLoans 6 = .ok (.getfield 56, 3) := by decide +kernel
theorem dX0_countLoans_9 : decode cX0_countLoans 9 = .ok (.if_icmp .ge 36, 3) := by decide +kernel
theorem dX0_countLoans_12 : decode cX0_countLoans 12 = .ok (.iload_n 2, 1) := by decide +kernel
theorem dX0_countLoans_13 : decode cX0_countLoans 13 = .ok (.aload_n 1, 1) := by decide +kernel
theorem dX0_countLoans_14 : decode cX0_countLoans 14 = .ok (.iload_n 3, 1) := by decide +kernel
theorem dX0_countLoans_15 : decode cX0_countLoans 15 = .ok (.invokevirtual 62, 3) := by decide +kernel
theorem dX0_countLoans_18 : decode cX0_countLoans 18 = .ok (.ifCond .eq 18, 3) := by decide +kernel
theorem dX0_countLoans_21 : decode cX0_countLoans 21 = .ok (.aload_n 0, 1) := by decide +kernel
theorem dX0_countLoans_22 : decode cX0_countLoans 22 = .ok (.getfield 21, 3) := by decide +kernel
theorem dX0_countLoans_25 : decode cX0_countLoans 25 = .ok (.iload_n 3, 1) := by decide +kernel
theorem dX0_countLoans_26 : decode cX0_countLoans 26 = .ok (.invokevirtual 66, 3) := by decide +kernel
theorem dX0_countLoans_29 : decode cX0_countLoans 29 = .ok (.ifCond .eq 7, 3) := by decide +kernel
theorem dX0_countLoans_32 : decode cX0_countLoans 32 = .ok (.iconst 1, 1) := by decide +kernel
theorem dX0_countLoans_33 : decode cX0_countLoans 33 = .ok (.goto 4, 3) := by decide +kernel
theorem dX0_countLoans_36 : decode cX0_countLoans 36 = .ok (.iconst 0, 1) := by decide +kernel
theorem dX0_countLoans_37 : decode cX0_countLoans 37 = .ok (.iadd, 1) := by decide +kernel
theorem dX0_countLoans_38 : decode cX0_countLoans 38 = .ok (.istore_n 2, 1) := by decide +kernel
theorem dX0_countLoans_39 : decode cX0_countLoans 39 = .ok (.iinc 3 1, 3) := by decide +kernel
theorem dX0_countLoans_42 : decode cX0_countLoans 42 = .ok (.goto (-38), 3) := by decide +kernel
theorem dX0_countLoans_45 : decode cX0_countLoans 45 = .ok (.iload_n 2, 1) := by decide +kernel
theorem dX0_countLoans_46 : decode cX0_countLoans 46 = .ok (.ireturn, 1) := by decide +kernel
theorem dX0_sizeOfRegion_0 : decode cX0_sizeOfRegion 0 = .ok (.aload_n 1, 1) := by decide +kernel
theorem dX0_sizeOfRegion_1 : decode cX0_sizeOfRegion 1 = .ok (.iload_n 2, 1) := by decide +kernel
theorem dX0_sizeOfRegion_2 : decode cX0_sizeOfRegion 2 = .ok (.invokevirtual 62, 3) := by decide +kernel
theorem dX0_sizeOfRegion_5 : decode cX0_sizeOfRegion 5 = .ok (.ifCond .eq 14, 3) := by decide +kernel
theorem dX0_sizeOfRegion_8 : decode cX0_sizeOfRegion 8 = .ok (.aload_n 0, 1) := by decide +kernel
theorem dX0_sizeOfRegion_9 : decode cX0_sizeOfRegion 9 = .ok (.getfield 21, 3) := by decide +kernel
theorem dX0_sizeOfRegion_12 : decode cX0_sizeOfRegion 12 = .ok (.iload_n 2, 1) := by decide +kernel
theorem dX0_sizeOfRegion_13 : decode cX0_sizeOfRegion 13 = .ok (.invokevirtual 66, 3) := by decide +kernel
theorem dX0_sizeOfRegion_16 : decode cX0_sizeOfRegion 16 = .ok (.ifCond .ne 5, 3) := by decide +kernel
theorem dX0_sizeOfRegion_19 : decode cX0_sizeOfRegion 19 = .ok (.iconst (-1), 1) := by decide +kernel
theorem dX0_sizeOfRegion_20 : decode cX0_sizeOfRegion 20 = .ok (.ireturn, 1) := by decide +kernel
theorem dX0_sizeOfRegion_21 : decode cX0_sizeOfRegion 21 = .ok (.iconst 0, 1) := by decide +kernel
theorem dX0_sizeOfRegion_22 : decode cX0_sizeOfRegion 22 = .ok (.istore_n 3, 1) := by decide +kernel
theorem dX0_sizeOfRegion_23 : decode cX0_sizeOfRegion 23 = .ok (.iconst 0, 1) := by decide +kernel
theorem dX0_sizeOfRegion_24 : decode cX0_sizeOfRegion 24 = .ok (.istore 4, 2) := by decide +kernel
theorem dX0_sizeOfRegion_26 : decode cX0_sizeOfRegion 26 = .ok (.iload 4, 2) := by decide +kernel
theorem dX0_sizeOfRegion_28 : decode cX0_sizeOfRegion 28 = .ok (.aload_n 1, 1) := by decide +kernel
theorem dX0_sizeOfRegion_29 : decode cX0_sizeOfRegion 29 = .ok (.getfield 56, 3) := by decide +kernel
theorem dX0_sizeOfRegion_32 : decode cX0_sizeOfRegion 32 = .ok (.if_icmp .ge 34, 3) := by decide +kernel
theorem dX0_sizeOfRegion_35 : decode cX0_sizeOfRegion 35 = .ok (.iload_n 3, 1) := by decide +kernel
theorem dX0_sizeOfRegion_36 : decode cX0_sizeOfRegion 36 = .ok (.aload_n 0, 1) := by decide +kernel
theorem dX0_sizeOfRegion_37 : decode cX0_sizeOfRegion 37 = .ok (.getfield 21, 3) := by decide +kernel
theorem dX0_sizeOfRegion_40 : decode cX0_sizeOfRegion 40 = .ok (.getfield 69, 3) := by decide +kernel
theorem dX0_sizeOfRegion_43 : decode cX0_sizeOfRegion 43 = .ok (.iload 4, 2) := by decide +kernel
theorem dX0_sizeOfRegion_45 : decode cX0_sizeOfRegion 45 = .ok (.laload, 1) := by decide +kernel
theorem dX0_sizeOfRegion_46 : decode cX0_sizeOfRegion 46 = .ok (.iload_n 2, 1) := by decide +kernel
theorem dX0_sizeOfRegion_47 : decode cX0_sizeOfRegion 47 = .ok (.invokestatic 73, 3) := by decide +kernel
theorem dX0_sizeOfRegion_50 : decode cX0_sizeOfRegion 50 = .ok (.ifCond .eq 7, 3) := by decide +kernel
theorem dX0_sizeOfRegion_53 : decode cX0_sizeOfRegion 53 = .ok (.iconst 1, 1) := by decide +kernel
theorem dX0_sizeOfRegion_54 : decode cX0_sizeOfRegion 54 = .ok (.goto 4, 3) := by decide +kernel
theorem dX0_sizeOfRegion_57 : decode cX0_sizeOfRegion 57 = .ok (.iconst 0, 1) := by decide +kernel
theorem dX0_sizeOfRegion_58 : decode cX0_sizeOfRegion 58 = .ok (.iadd, 1) := by decide +kernel
theorem dX0_sizeOfRegion_59 : decode cX0_sizeOfRegion 59 = .ok (.istore_n 3, 1) := by decide +kernel
theorem dX0_sizeOfRegion_60 : decode cX0_sizeOfRegion 60 = .ok (.iinc 4 1, 3) := by decide +kernel
theorem dX0_sizeOfRegion_63 : decode cX0_sizeOfRegion 63 = .ok (.goto (-37), 3) := by decide +kernel
theorem dX0_sizeOfRegion_66 : decode cX0_sizeOfRegion 66 = .ok (.iload_n 3, 1) := by decide +kernel
theorem dX0_sizeOfRegion_67 : decode cX0_sizeOfRegion 67 = .ok (.ireturn, 1) := by decide +kernel
theorem dX0_detail_0 : decode cX0_detail 0 = .ok (.iload_n 2, 1) := by decide +kernel
theorem dX0_detail_1 : decode cX0_detail 1 = .ok (.ifCond .lt 14, 3) := by decide +kernel
theorem dX0_detail_4 : decode cX0_detail 4 = .ok (.iload_n 2, 1) := by decide +kernel
theorem dX0_detail_5 : decode cX0_detail 5 = .ok (.aload_n 0, 1) := by decide +kernel
theorem dX0_detail_6 : decode cX0_detail 6 = .ok (.getfield 30, 3) := by decide +kernel
theorem dX0_detail_9 : decode cX0_detail 9 = .ok (.invokevirtual 77, 3) := by decide +kernel
theorem dX0_detail_12 : decode cX0_detail 12 = .ok (.if_icmp .lt 5, 3) := by decide +kernel
theorem dX0_detail_15 : decode cX0_detail 15 = .ok (.iconst (-1), 1) := by decide +kernel
theorem dX0_detail_16 : decode cX0_detail 16 = .ok (.ireturn, 1) := by decide +kernel
theorem dX0_detail_17 : decode cX0_detail 17 = .ok (.aload_n 0, 1) := by decide +kernel
theorem dX0_detail_18 : decode cX0_detail 18 = .ok (.getfield 30, 3) := by decide +kernel
theorem dX0_detail_21 : decode cX0_detail 21 = .ok (.getfield 81, 3) := by decide +kernel
theorem dX0_detail_24 : decode cX0_detail 24 = .ok (.iload_n 2, 1) := by decide +kernel
theorem dX0_detail_25 : decode cX0_detail 25 = .ok (.iaload, 1) := by decide +kernel
theorem dX0_detail_26 : decode cX0_detail 26 = .ok (.istore 4, 2) := by decide +kernel
theorem dX0_detail_28 : decode cX0_detail 28 = .ok (.iload_n 3, 1) := by decide +kernel
theorem dX0_detail_29 : decode cX0_detail 29 = .ok (.tableswitch 84 0 5 #[39, 44, 54, 62, 70, 77], 39) := by decide +kernel
theorem dX0_detail_68 : decode cX0_detail 68 = .ok (.iload 4, 2) := by decide +kernel
theorem dX0_detail_70 : decode cX0_detail 70 = .ok (.iconst 3, 1) := by decide +kernel
theorem dX0_detail_71 : decode cX0_detail 71 = .ok (.idiv, 1) := by decide +kernel
theorem dX0_detail_72 : decode cX0_detail 72 = .ok (.ireturn, 1) := by decide +kernel
theorem dX0_detail_73 : decode cX0_detail 73 = .ok (.aload_n 0, 1) := by decide +kernel
theorem dX0_detail_74 : decode cX0_detail 74 = .ok (.getfield 30, 3) := by decide +kernel
theorem dX0_detail_77 : decode cX0_detail 77 = .ok (.getfield 85, 3) := by decide +kernel
theorem dX0_detail_80 : decode cX0_detail 80 = .ok (.iload_n 2, 1) := by decide +kernel
theorem dX0_detail_81 : decode cX0_detail 81 = .ok (.iaload, 1) := by decide +kernel
theorem dX0_detail_82 : decode cX0_detail 82 = .ok (.ireturn, 1) := by decide +kernel
theorem dX0_detail_83 : decode cX0_detail 83 = .ok (.aload_n 1, 1) := by decide +kernel
theorem dX0_detail_84 : decode cX0_detail 84 = .ok (.getfield 88, 3) := by decide +kernel
theorem dX0_detail_87 : decode cX0_detail 87 = .ok (.iload 4, 2) := by decide +kernel
theorem dX0_detail_89 : decode cX0_detail 89 = .ok (.iaload, 1) := by decide +kernel
theorem dX0_detail_90 : decode cX0_detail 90 = .ok (.ireturn, 1) := by decide +kernel
theorem dX0_detail_91 : decode cX0_detail 91 = .ok (.aload_n 1, 1) := by decide +kernel
theorem dX0_detail_92 : decode cX0_detail 92 = .ok (.getfield 91, 3) := by decide +kernel
theorem dX0_detail_95 : decode cX0_detail 95 = .ok (.iload 4, 2) := by decide +kernel
theorem dX0_detail_97 : decode cX0_detail 97 = .ok (.iaload, 1) := by decide +kernel
theorem dX0_detail_98 : decode cX0_detail 98 = .ok (.ireturn, 1) := by decide +kernel
theorem dX0_detail_99 : decode cX0_detail 99 = .ok (.aload_n 0, 1) := by decide +kernel
theorem dX0_detail_100 : decode cX0_detail 100 = .ok (.aload_n 1, 1) := by decide +kernel
theorem dX0_detail_101 : decode cX0_detail 101 = .ok (.iload_n 2, 1) := by decide +kernel
theorem dX0_detail_102 : decode cX0_detail 102 = .ok (.invokevirtual 94, 3) := by decide +kernel
theorem dX0_detail_105 : decode cX0_detail 105 = .ok (.ireturn, 1) := by decide +kernel
theorem dX0_detail_106 : decode cX0_detail 106 = .ok (.aload_n 0, 1) := by decide +kernel
theorem dX0_detail_107 : decode cX0_detail 107 = .ok (.aload_n 1, 1) := by decide +kernel
theorem dX0_detail_108 : decode cX0_detail 108 = .ok (.iload_n 2, 1) := by decide +kernel
theorem dX0_detail_109 : decode cX0_detail 109 = .ok (.invokevirtual 98, 3) := by decide +kernel
theorem dX0_detail_112 : decode cX0_detail 112 = .ok (.ireturn, 1) := by decide +kernel
theorem dX0_detail_113 : decode cX0_detail 113 = .ok (.aload_n 0, 1) := by decide +kernel
theorem dX0_detail_114 : decode cX0_detail 114 = .ok (.aload_n 1, 1) := by decide +kernel
theorem dX0_detail_115 : decode cX0_detail 115 = .ok (.iload_n 2, 1) := by decide +kernel
theorem dX0_detail_116 : decode cX0_detail 116 = .ok (.invokevirtual 101, 3) := by decide +kernel
theorem dX0_detail_119 : decode cX0_detail 119 = .ok (.ireturn, 1) := by decide +kernel
theorem dX0_reasonOf_0 : decode cX0_reasonOf 0 = .ok (.aload_n 0, 1) := by decide +kernel
theorem dX0_reasonOf_1 : decode cX0_reasonOf 1 = .ok (.getfield 30, 3) := by decide +kernel
theorem dX0_reasonOf_4 : decode cX0_reasonOf 4 = .ok (.getfield 81, 3) := by decide +kernel
theorem dX0_reasonOf_7 : decode cX0_reasonOf 7 = .ok (.iload_n 2, 1) := by decide +kernel
theorem dX0_reasonOf_8 : decode cX0_reasonOf 8 = .ok (.iaload, 1) := by decide +kernel
theorem dX0_reasonOf_9 : decode cX0_reasonOf 9 = .ok (.istore_n 3, 1) := by decide +kernel
theorem dX0_reasonOf_10 : decode cX0_reasonOf 10 = .ok (.aload_n 0, 1) := by decide +kernel
theorem dX0_reasonOf_11 : decode cX0_reasonOf 11 = .ok (.getfield 30, 3) := by decide +kernel
theorem dX0_reasonOf_14 : decode cX0_reasonOf 14 = .ok (.getfield 85, 3) := by decide +kernel
theorem dX0_reasonOf_17 : decode cX0_reasonOf 17 = .ok (.iload_n 2, 1) := by decide +kernel
theorem dX0_reasonOf_18 : decode cX0_reasonOf 18 = .ok (.iaload, 1) := by decide +kernel
theorem dX0_reasonOf_19 : decode cX0_reasonOf 19 = .ok (.iconst 2, 1) := by decide +kernel
theorem dX0_reasonOf_20 : decode cX0_reasonOf 20 = .ok (.if_icmp .ne 25, 3) := by decide +kernel
theorem dX0_reasonOf_23 : decode cX0_reasonOf 23 = .ok (.aload_n 0, 1) := by decide +kernel
theorem dX0_reasonOf_24 : decode cX0_reasonOf 24 = .ok (.getfield 21, 3) := by decide +kernel
theorem dX0_reasonOf_27 : decode cX0_reasonOf 27 = .ok (.aload_n 0, 1) := by decide +kernel
theorem dX0_reasonOf_28 : decode cX0_reasonOf 28 = .ok (.getfield 12, 3) := by decide +kernel
theorem dX0_reasonOf_31 : decode cX0_reasonOf 31 = .ok (.iload_n 3, 1) := by decide +kernel
theorem dX0_reasonOf_32 : decode cX0_reasonOf 32 = .ok (.iconst 3, 1) := by decide +kernel
theorem dX0_reasonOf_33 : decode cX0_reasonOf 33 = .ok (.idiv, 1) := by decide +kernel
theorem dX0_reasonOf_34 : decode cX0_reasonOf 34 = .ok (.aload_n 1, 1) := by decide +kernel
theorem dX0_reasonOf_35 : decode cX0_reasonOf 35 = .ok (.iload_n 3, 1) := by decide +kernel
theorem dX0_reasonOf_36 : decode cX0_reasonOf 36 = .ok (.invokevirtual 104, 3) := by decide +kernel
theorem dX0_reasonOf_39 : decode cX0_reasonOf 39 = .ok (.invokevirtual 108, 3) := by decide +kernel
theorem dX0_reasonOf_42 : decode cX0_reasonOf 42 = .ok (.goto 12, 3) := by decide +kernel
theorem dX0_reasonOf_45 : decode cX0_reasonOf 45 = .ok (.aload_n 0, 1) := by decide +kernel
theorem dX0_reasonOf_46 : decode cX0_reasonOf 46 = .ok (.getfield 30, 3) := by decide +kernel
theorem dX0_reasonOf_49 : decode cX0_reasonOf 49 = .ok (.getfield 112, 3) := by decide +kernel
theorem dX0_reasonOf_52 : decode cX0_reasonOf 52 = .ok (.iload_n 2, 1) := by decide +kernel
theorem dX0_reasonOf_53 : decode cX0_reasonOf 53 = .ok (.iaload, 1) := by decide +kernel
theorem dX0_reasonOf_54 : decode cX0_reasonOf 54 = .ok (.ireturn, 1) := by decide +kernel
theorem dX0_holderOf_0 : decode cX0_holderOf 0 = .ok (.aload_n 0, 1) := by decide +kernel
theorem dX0_holderOf_1 : decode cX0_holderOf 1 = .ok (.getfield 30, 3) := by decide +kernel
theorem dX0_holderOf_4 : decode cX0_holderOf 4 = .ok (.getfield 85, 3) := by decide +kernel
theorem dX0_holderOf_7 : decode cX0_holderOf 7 = .ok (.iload_n 2, 1) := by decide +kernel
theorem dX0_holderOf_8 : decode cX0_holderOf 8 = .ok (.iaload, 1) := by decide +kernel
theorem dX0_holderOf_9 : decode cX0_holderOf 9 = .ok (.istore_n 3, 1) := by decide +kernel
theorem dX0_holderOf_10 : decode cX0_holderOf 10 = .ok (.iload_n 3, 1) := by decide +kernel
theorem dX0_holderOf_11 : decode cX0_holderOf 11 = .ok (.iconst 3, 1) := by decide +kernel
theorem dX0_holderOf_12 : decode cX0_holderOf 12 = .ok (.if_icmp .eq 13, 3) := by decide +kernel
theorem dX0_holderOf_15 : decode cX0_holderOf 15 = .ok (.iload_n 3, 1) := by decide +kernel
theorem dX0_holderOf_16 : decode cX0_holderOf 16 = .ok (.iconst 4, 1) := by decide +kernel
theorem dX0_holderOf_17 : decode cX0_holderOf 17 = .ok (.if_icmp .eq 8, 3) := by decide +kernel
theorem dX0_holderOf_20 : decode cX0_holderOf 20 = .ok (.iload_n 3, 1) := by decide +kernel
theorem dX0_holderOf_21 : decode cX0_holderOf 21 = .ok (.iconst 5, 1) := by decide +kernel
theorem dX0_holderOf_22 : decode cX0_holderOf 22 = .ok (.if_icmp .ne 7, 3) := by decide +kernel
theorem dX0_holderOf_25 : decode cX0_holderOf 25 = .ok (.iconst 1, 1) := by decide +kernel
theorem dX0_holderOf_26 : decode cX0_holderOf 26 = .ok (.goto 4, 3) := by decide +kernel
theorem dX0_holderOf_29 : decode cX0_holderOf 29 = .ok (.iconst 0, 1) := by decide +kernel
theorem dX0_holderOf_30 : decode cX0_holderOf 30 = .ok (.istore 4, 2) := by decide +kernel
theorem dX0_holderOf_32 : decode cX0_holderOf 32 = .ok (.iload 4, 2) := by decide +kernel
theorem dX0_holderOf_34 : decode cX0_holderOf 34 = .ok (.ifCond .eq 34, 3) := by decide +kernel
theorem dX0_holderOf_37 : decode cX0_holderOf 37 = .ok (.aload_n 0, 1) := by decide +kernel
theorem dX0_holderOf_38 : decode cX0_holderOf 38 = .ok (.getfield 21, 3) := by decide +kernel
theorem dX0_holderOf_41 : decode cX0_holderOf 41 = .ok (.aload_n 1, 1) := by decide +kernel
theorem dX0_holderOf_42 : decode cX0_holderOf 42 = .ok (.aload_n 0, 1) := by decide +kernel
theorem dX0_holderOf_43 : decode cX0_holderOf 43 = .ok (.getfield 30, 3) := by decide +kernel
theorem dX0_holderOf_46 : decode cX0_holderOf 46 = .ok (.getfield 81, 3) := by decide +kernel
theorem dX0_holderOf_49 : decode cX0_holderOf 49 = .ok (.iload_n 2, 1) := by decide +kernel
theorem dX0_holderOf_50 : decode cX0_holderOf 50 = .ok (.iaload, 1) := by decide +kernel
theorem dX0_holderOf_51 : decode cX0_holderOf 51 = .ok (.iconst 3, 1) := by decide +kernel
theorem dX0_holderOf_52 : decode cX0_holderOf 52 = .ok (.idiv, 1) := by decide +kernel
theorem dX0_holderOf_53 : decode cX0_holderOf 53 = .ok (.aload_n 0, 1) := by decide +kernel
theorem dX0_holderOf_54 : decode cX0_holderOf 54 = .ok (.getfield 30, 3) := by decide +kernel
theorem dX0_holderOf_57 : decode cX0_holderOf 57 = .ok (.getfield 112, 3) := by decide +kernel
theorem dX0_holderOf_60 : decode cX0_holderOf 60 = .ok (.iload_n 2, 1) := by decide +kernel
theorem dX0_holderOf_61 : decode cX0_holderOf 61 = .ok (.iaload, 1) := by decide +kernel
theorem dX0_holderOf_62 : decode cX0_holderOf 62 = .ok (.invokevirtual 115, 3) := by decide +kernel
theorem dX0_holderOf_65 : decode cX0_holderOf 65 = .ok (.goto 4, 3) := by decide +kernel
theorem dX0_holderOf_68 : decode cX0_holderOf 68 = .ok (.iconst (-1), 1) := by decide +kernel
theorem dX0_holderOf_69 : decode cX0_holderOf 69 = .ok (.ireturn, 1) := by decide +kernel
theorem dX0_nextOf_0 : decode cX0_nextOf 0 = .ok (.aload_n 0, 1) := by decide +kernel
theorem dX0_nextOf_1 : decode cX0_nextOf 1 = .ok (.aload_n 1, 1) := by decide +kernel
theorem dX0_nextOf_2 : decode cX0_nextOf 2 = .ok (.iload_n 2, 1) := by decide +kernel
theorem dX0_nextOf_3 : decode cX0_nextOf 3 = .ok (.invokevirtual 98, 3) := by decide +kernel
theorem dX0_nextOf_6 : decode cX0_nextOf 6 = .ok (.istore_n 3, 1) := by decide +kernel
theorem dX0_nextOf_7 : decode cX0_nextOf 7 = .ok (.iload_n 3, 1) := by decide +kernel
theorem dX0_nextOf_8 : decode cX0_nextOf 8 = .ok (.iconst (-1), 1) := by decide +kernel
theorem dX0_nextOf_9 : decode cX0_nextOf 9 = .ok (.if_icmp .ne 7, 3) := by decide +kernel
theorem dX0_nextOf_12 : decode cX0_nextOf 12 = .ok (.iconst (-1), 1) := by decide +kernel
theorem dX0_nextOf_13 : decode cX0_nextOf 13 = .ok (.goto 26, 3) := by decide +kernel
theorem dX0_nextOf_16 : decode cX0_nextOf 16 = .ok (.aload_n 0, 1) := by decide +kernel
theorem dX0_nextOf_17 : decode cX0_nextOf 17 = .ok (.getfield 21, 3) := by decide +kernel
theorem dX0_nextOf_20 : decode cX0_nextOf 20 = .ok (.aload_n 0, 1) := by decide +kernel
theorem dX0_nextOf_21 : decode cX0_nextOf 21 = .ok (.getfield 12, 3) := by decide +kernel
theorem dX0_nextOf_24 : decode cX0_nextOf 24 = .ok (.aload_n 0, 1) := by decide +kernel
theorem dX0_nextOf_25 : decode cX0_nextOf 25 = .ok (.getfield 30, 3) := by decide +kernel
theorem dX0_nextOf_28 : decode cX0_nextOf 28 = .ok (.getfield 81, 3) := by decide +kernel
theorem dX0_nextOf_31 : decode cX0_nextOf 31 = .ok (.iload_n 2, 1) := by decide +kernel
theorem dX0_nextOf_32 : decode cX0_nextOf 32 = .ok (.iaload, 1) := by decide +kernel
theorem dX0_nextOf_33 : decode cX0_nextOf 33 = .ok (.iconst 3, 1) := by decide +kernel
theorem dX0_nextOf_34 : decode cX0_nextOf 34 = .ok (.idiv, 1) := by decide +kernel
theorem dX0_nextOf_35 : decode cX0_nextOf 35 = .ok (.iload_n 3, 1) := by decide +kernel
theorem dX0_nextOf_36 : decode cX0_nextOf 36 = .ok (.invokevirtual 118, 3) := by decide +kernel
theorem dX0_nextOf_39 : decode cX0_nextOf 39 = .ok (.ireturn, 1) := by decide +kernel
theorem dX1_init_0 : decode cX1_init 0 = .ok (.aload_n 0, 1) := by decide +kernel
theorem dX1_init_1 : decode cX1_init 1 = .ok (.invokespecial 3, 3) := by decide +kernel
theorem dX1_init_4 : decode cX1_init 4 = .ok (.aload_n 0, 1) := by decide +kernel
theorem dX1_init_5 : decode cX1_init 5 = .ok (.iload_n 1, 1) := by decide +kernel
theorem dX1_init_6 : decode cX1_init 6 = .ok (.newarray .int, 2) := by decide +kernel
theorem dX1_init_8 : decode cX1_init 8 = .ok (.putfield 9, 3) := by decide +kernel
theorem dX1_init_11 : decode cX1_init 11 = .ok (.aload_n 0, 1) := by decide +kernel
theorem dX1_init_12 : decode cX1_init 12 = .ok (.iload_n 1, 1) := by decide +kernel
theorem dX1_init_13 : decode cX1_init 13 = .ok (.newarray .int, 2) := by decide +kernel
theorem dX1_init_15 : decode cX1_init 15 = .ok (.putfield 15, 3) := by decide +kernel
theorem dX1_init_18 : decode cX1_init 18 = .ok (.aload_n 0, 1) := by decide +kernel
theorem dX1_init_19 : decode cX1_init 19 = .ok (.iload_n 1, 1) := by decide +kernel
theorem dX1_init_20 : decode cX1_init 20 = .ok (.newarray .int, 2) := by decide +kernel
theorem dX1_init_22 : decode cX1_init 22 = .ok (.putfield 18, 3) := by decide +kernel
theorem dX1_init_25 : decode cX1_init 25 = .ok (.return_, 1) := by decide +kernel
theorem dX1_noteAll_0 : decode cX1_noteAll 0 = .ok (.aload_n 0, 1) := by decide +kernel
theorem dX1_noteAll_1 : decode cX1_noteAll 1 = .ok (.iconst 0, 1) := by decide +kernel
theorem dX1_noteAll_2 : decode cX1_noteAll 2 = .ok (.putfield 21, 3) := by decide +kernel
theorem dX1_noteAll_5 : decode cX1_noteAll 5 = .ok (.iconst 0, 1) := by decide +kernel
theorem dX1_noteAll_6 : decode cX1_noteAll 6 = .ok (.istore 4, 2) := by decide +kernel
theorem dX1_noteAll_8 : decode cX1_noteAll 8 = .ok (.iload 4, 2) := by decide +kernel
theorem dX1_noteAll_10 : decode cX1_noteAll 10 = .ok (.aload_n 2, 1) := by decide +kernel
theorem dX1_noteAll_11 : decode cX1_noteAll 11 = .ok (.getfield 25, 3) := by decide +kernel
theorem dX1_noteAll_14 : decode cX1_noteAll 14 = .ok (.if_icmp .ge 95, 3) := by decide +kernel
theorem dX1_noteAll_17 : decode cX1_noteAll 17 = .ok (.aload_n 3, 1) := by decide +kernel
theorem dX1_noteAll_18 : decode cX1_noteAll 18 = .ok (.iload 4, 2) := by decide +kernel
theorem dX1_noteAll_20 : decode cX1_noteAll 20 = .ok (.invokevirtual 28, 3) := by decide +kernel
theorem dX1_noteAll_23 : decode cX1_noteAll 23 = .ok (.ifCond .eq 13, 3) := by decide +kernel
theorem dX1_noteAll_26 : decode cX1_noteAll 26 = .ok (.aload_n 2, 1) := by decide +kernel
theorem dX1_noteAll_27 : decode cX1_noteAll 27 = .ok (.aload_n 1, 1) := by decide +kernel
theorem dX1_noteAll_28 : decode cX1_noteAll 28 = .ok (.iload 4, 2) := by decide +kernel
theorem dX1_noteAll_30 : decode cX1_noteAll 30 = .ok (.invokevirtual 34, 3) := by decide +kernel
theorem dX1_noteAll_33 : decode cX1_noteAll 33 = .ok (.goto 4, 3) := by decide +kernel
theorem dX1_noteAll_36 : decode cX1_noteAll 36 = .ok (.iconst 0, 1) := by decide +kernel
theorem dX1_noteAll_37 : decode cX1_noteAll 37 = .ok (.istore 5, 2) := by decide +kernel
theorem dX1_noteAll_39 : decode cX1_noteAll 39 = .ok (.iconst 0, 1) := by decide +kernel
theorem dX1_noteAll_40 : decode cX1_noteAll 40 = .ok (.istore 6, 2) := by decide +kernel
theorem dX1_noteAll_42 : decode cX1_noteAll 42 = .ok (.iload 6, 2) := by decide +kernel
theorem dX1_noteAll_44 : decode cX1_noteAll 44 = .ok (.iload 5, 2) := by decide +kernel
theorem dX1_noteAll_46 : decode cX1_noteAll 46 = .ok (.if_icmp .ge 57, 3) := by decide +kernel
theorem dX1_noteAll_49 : decode cX1_noteAll 49 = .ok (.iload 4, 2) := by decide +kernel
theorem dX1_noteAll_51 : decode cX1_noteAll 51 = .ok (.iconst 3, 1) := by decide +kernel
theorem dX1_noteAll_52 : decode cX1_noteAll 52 = .ok (.imul, 1) := by decide +kernel
theorem dX1_noteAll_53 : decode cX1_noteAll 53 = .ok (.iload 6, 2) := by decide +kernel
theorem dX1_noteAll_55 : decode cX1_noteAll 55 = .ok (.iadd, 1) := by decide +kernel
theorem dX1_noteAll_56 : decode cX1_noteAll 56 = .ok (.istore 7, 2) := by decide +kernel
theorem dX1_noteAll_58 : decode cX1_noteAll 58 = .ok (.aload_n 2, 1) := by decide +kernel
theorem dX1_noteAll_59 : decode cX1_noteAll 59 = .ok (.aload_n 1, 1) := by decide +kernel
theorem dX1_noteAll_60 : decode cX1_noteAll 60 = .ok (.iload 4, 2) := by decide +kernel
theorem dX1_noteAll_62 : decode cX1_noteAll 62 = .ok (.iload 7, 2) := by decide +kernel
theorem dX1_noteAll_64 : decode cX1_noteAll 64 = .ok (.invokevirtual 38, 3) := by decide +kernel
theorem dX1_noteAll_67 : decode cX1_noteAll 67 = .ok (.istore 8, 2) := by decide +kernel
theorem dX1_noteAll_69 : decode cX1_noteAll 69 = .ok (.aload_n 0, 1) := by decide +kernel
theorem dX1_noteAll_70 : decode cX1_noteAll 70 = .ok (.aload_n 1, 1) := by decide +kernel
theorem dX1_noteAll_71 : decode cX1_noteAll 71 = .ok (.aload_n 3, 1) := by decide +kernel
theorem dX1_noteAll_72 : decode cX1_noteAll 72 = .ok (.iload 7, 2) := by decide +kernel
theorem dX1_noteAll_74 : decode cX1_noteAll 74 = .ok (.iload 8, 2) := by decide +kernel
theorem dX1_noteAll_76 : decode cX1_noteAll 76 = .ok (.invokevirtual 42, 3) := by decide +kernel
theorem dX1_noteAll_79 : decode cX1_noteAll 79 = .ok (.aload_n 0, 1) := by decide +kernel
theorem dX1_noteAll_80 : decode cX1_noteAll 80 = .ok (.aload_n 1, 1) := by decide +kernel
theorem dX1_noteAll_81 : decode cX1_noteAll 81 = .ok (.aload_n 3, 1) := by decide +kernel
theorem dX1_noteAll_82 : decode cX1_noteAll 82 = .ok (.iload 7, 2) := by decide +kernel
theorem dX1_noteAll_84 : decode cX1_noteAll 84 = .ok (.iload 8, 2) := by decide +kernel
theorem dX1_noteAll_86 : decode cX1_noteAll 86 = .ok (.invokevirtual 46, 3) := by decide +kernel
theorem dX1_noteAll_89 : decode cX1_noteAll 89 = .ok (.aload_n 0, 1) := by decide +kernel
theorem dX1_noteAll_90 : decode cX1_noteAll 90 = .ok (.aload_n 1, 1) := by decide +kernel
theorem dX1_noteAll_91 : decode cX1_noteAll 91 = .ok (.aload_n 3, 1) := by decide +kernel
theorem dX1_noteAll_92 : decode cX1_noteAll 92 = .ok (.iload 7, 2) := by decide +kernel
theorem dX1_noteAll_94 : decode cX1_noteAll 94 = .ok (.invokevirtual 49, 3) := by decide +kernel
theorem dX1_noteAll_97 : decode cX1_noteAll 97 = .ok (.iinc 6 1, 3) := by decide +kernel
theorem dX1_noteAll_100 : decode cX1_noteAll 100 = .ok (.goto (-58), 3) := by decide +kernel
theorem dX1_noteAll_103 : decode cX1_noteAll 103 = .ok (.iinc 4 1, 3) := by decide +kernel
theorem dX1_noteAll_106 : decode cX1_noteAll 106 = .ok (.goto (-98), 3) := by decide +kernel
theorem dX1_noteAll_109 : decode cX1_noteAll 109 = .ok (.return_, 1) := by decide +kernel
theorem dX1_noteCells_0 : decode cX1_noteCells 0 = .ok (.aload_n 1, 1) := by decide +kernel
theorem dX1_noteCells_1 : decode cX1_noteCells 1 = .ok (.iload 4, 2) := by decide +kernel
theorem dX1_noteCells_3 : decode cX1_noteCells 3 = .ok (.aload_n 1, 1) := by decide +kernel
theorem dX1_noteCells_4 : decode cX1_noteCells 4 = .ok (.getfield 53, 3) := by decide +kernel
theorem dX1_noteCells_7 : decode cX1_noteCells 7 = .ok (.iload_n 3, 1) := by decide +kernel
theorem dX1_noteCells_8 : decode cX1_noteCells 8 = .ok (.iaload, 1) := by decide +kernel
theorem dX1_noteCells_9 : decode cX1_noteCells 9 = .ok (.invokevirtual 58, 3) := by decide +kernel
theorem dX1_noteCells_12 : decode cX1_noteCells 12 = .ok (.ifCond .ne 4, 3) := by decide +kernel
theorem dX1_noteCells_15 : decode cX1_noteCells 15 = .ok (.return_, 1) := by decide +kernel
theorem dX1_noteCells_16 : decode cX1_noteCells 16 = .ok (.aload_n 2, 1) := by decide +kernel
theorem dX1_noteCells_17 : decode cX1_noteCells 17 = .ok (.iload_n 3, 1) := by decide +kernel
theorem dX1_noteCells_18 : decode cX1_noteCells 18 = .ok (.iconst 3, 1) := by decide +kernel
theorem dX1_noteCells_19 : decode cX1_noteCells 19 = .ok (.idiv, 1) := by decide +kernel
theorem dX1_noteCells_20 : decode cX1_noteCells 20 = .ok (.aload_n 1, 1) := by decide +kernel
theorem dX1_noteCells_21 : decode cX1_noteCells 21 = .ok (.iload_n 3, 1) := by decide +kernel
theorem dX1_noteCells_22 : decode cX1_noteCells 22 = .ok (.invokevirtual 62, 3) := by decide +kernel
theorem dX1_noteCells_25 : decode cX1_noteCells 25 = .ok (.invokevirtual 66, 3) := by decide +kernel
theorem dX1_noteCells_28 : decode cX1_noteCells 28 = .ok (.istore 5, 2) := by decide +kernel
theorem dX1_noteCells_30 : decode cX1_noteCells 30 = .ok (.iload 5, 2) := by decide +kernel
theorem dX1_noteCells_32 : decode cX1_noteCells 32 = .ok (.iconst 1, 1) := by decide +kernel
theorem dX1_noteCells_33 : decode cX1_noteCells 33 = .ok (.iand, 1) := by decide +kernel
theorem dX1_noteCells_34 : decode cX1_noteCells 34 = .ok (.ifCond .eq 10, 3) := by decide +kernel
theorem dX1_noteCells_37 : decode cX1_noteCells 37 = .ok (.aload_n 0, 1) := by decide +kernel
theorem dX1_noteCells_38 : decode cX1_noteCells 38 = .ok (.iload_n 3, 1) := by decide +kernel
theorem dX1_noteCells_39 : decode cX1_noteCells 39 = .ok (.iconst 1, 1) := by decide +kernel
theorem dX1_noteCells_40 : decode cX1_noteCells 40 = .ok (.iconst (-1), 1) := by decide +kernel
theorem dX1_noteCells_41 : decode cX1_noteCells 41 = .ok (.invokevirtual 70, 3) := by decide +kernel
theorem dX1_noteCells_44 : decode cX1_noteCells 44 = .ok (.iload 5, 2) := by decide +kernel
theorem dX1_noteCells_46 : decode cX1_noteCells 46 = .ok (.iconst 4, 1) := by decide +kernel
theorem dX1_noteCells_47 : decode cX1_noteCells 47 = .ok (.iand, 1) := by decide +kernel
theorem dX1_noteCells_48 : decode cX1_noteCells 48 = .ok (.ifCond .eq 10, 3) := by decide +kernel
theorem dX1_noteCells_51 : decode cX1_noteCells 51 = .ok (.aload_n 0, 1) := by decide +kernel
theorem dX1_noteCells_52 : decode cX1_noteCells 52 = .ok (.iload_n 3, 1) := by decide +kernel
theorem dX1_noteCells_53 : decode cX1_noteCells 53 = .ok (.iconst 2, 1) := by decide +kernel
theorem dX1_noteCells_54 : decode cX1_noteCells 54 = .ok (.iconst (-1), 1) := by decide +kernel
theorem dX1_noteCells_55 : decode cX1_noteCells 55 = .ok (.invokevirtual 70, 3) := by decide +kernel
theorem dX1_noteCells_58 : decode cX1_noteCells 58 = .ok (.return_, 1) := by decide +kernel
theorem dX1_noteLoan_0 : decode cX1_noteLoan 0 = .ok (.aload_n 2, 1) := by decide +kernel
theorem dX1_noteLoan_1 : decode cX1_noteLoan 1 = .ok (.getfield 74, 3) := by decide +kernel
theorem dX1_noteLoan_4 : decode cX1_noteLoan 4 = .ok (.iload_n 3, 1) := by decide +kernel
theorem dX1_noteLoan_5 : decode cX1_noteLoan 5 = .ok (.iconst 3, 1) := by decide +kernel
theorem dX1_noteLoan_6 : decode cX1_noteLoan 6 = .ok (.idiv, 1) := by decide +kernel
theorem dX1_noteLoan_7 : decode cX1_noteLoan 7 = .ok (.laload, 1) := by decide +kernel
theorem dX1_noteLoan_8 : decode cX1_noteLoan 8 = .ok (.lstore 5, 2) := by decide +kernel
theorem dX1_noteLoan_10 : decode cX1_noteLoan 10 = .ok (.lload 5, 2) := by decide +kernel
theorem dX1_noteLoan_12 : decode cX1_noteLoan 12 = .ok (.lconst 0, 1) := by decide +kernel
theorem dX1_noteLoan_13 : decode cX1_noteLoan 13 = .ok (.lcmp, 1) := by decide +kernel
theorem dX1_noteLoan_14 : decode cX1_noteLoan 14 = .ok (.ifCond .ne 4, 3) := by decide +kernel
theorem dX1_noteLoan_17 : decode cX1_noteLoan 17 = .ok (.return_, 1) := by decide +kernel
theorem dX1_noteLoan_18 : decode cX1_noteLoan 18 = .ok (.iconst 0, 1) := by decide +kernel
theorem dX1_noteLoan_19 : decode cX1_noteLoan 19 = .ok (.istore 7, 2) := by decide +kernel
theorem dX1_noteLoan_21 : decode cX1_noteLoan 21 = .ok (.iload 7, 2) := by decide +kernel
theorem dX1_noteLoan_23 : decode cX1_noteLoan 23 = .ok (.aload_n 1, 1) := by decide +kernel
theorem dX1_noteLoan_24 : decode cX1_noteLoan 24 = .ok (.getfield 78, 3) := by decide +kernel
theorem dX1_noteLoan_27 : decode cX1_noteLoan 27 = .ok (.if_icmp .ge 70, 3) := by decide +kernel
theorem dX1_noteLoan_30 : decode cX1_noteLoan 30 = .ok (.lload 5, 2) := by decide +kernel
theorem dX1_noteLoan_32 : decode cX1_noteLoan 32 = .ok (.iload 7, 2) := by decide +kernel
theorem dX1_noteLoan_34 : decode cX1_noteLoan 34 = .ok (.invokestatic 81, 3) := by decide +kernel
theorem dX1_noteLoan_37 : decode cX1_noteLoan 37 = .ok (.ifCond .eq 33, 3) := by decide +kernel
theorem dX1_noteLoan_40 : decode cX1_noteLoan 40 = .ok (.aload_n 1, 1) := by decide +kernel
theorem dX1_noteLoan_41 : decode cX1_noteLoan 41 = .ok (.iload 4, 2) := by decide +kernel
theorem dX1_noteLoan_43 : decode cX1_noteLoan 43 = .ok (.iload_n 3, 1) := by decide +kernel
theorem dX1_noteLoan_44 : decode cX1_noteLoan 44 = .ok (.iload 7, 2) := by decide +kernel
theorem dX1_noteLoan_46 : decode cX1_noteLoan 46 = .ok (.invokevirtual 85, 3) := by decide +kernel
theorem dX1_noteLoan_49 : decode cX1_noteLoan 49 = .ok (.ifCond .eq 21, 3) := by decide +kernel
theorem dX1_noteLoan_52 : decode cX1_noteLoan 52 = .ok (.iload 4, 2) := by decide +kernel
theorem dX1_noteLoan_54 : decode cX1_noteLoan 54 = .ok (.ifCond .ne 12, 3) := by decide +kernel
theorem dX1_noteLoan_57 : decode cX1_noteLoan 57 = .ok (.aload_n 1, 1) := by decide +kernel
theorem dX1_noteLoan_58 : decode cX1_noteLoan 58 = .ok (.iload 7, 2) := by decide +kernel
theorem dX1_noteLoan_60 : decode cX1_noteLoan 60 = .ok (.invokevirtual 89, 3) := by decide +kernel
theorem dX1_noteLoan_63 : decode cX1_noteLoan 63 = .ok (.ifCond .eq 7, 3) := by decide +kernel
theorem dX1_noteLoan_66 : decode cX1_noteLoan 66 = .ok (.iconst 1, 1) := by decide +kernel
theorem dX1_noteLoan_67 : decode cX1_noteLoan 67 = .ok (.goto 4, 3) := by decide +kernel
theorem dX1_noteLoan_70 : decode cX1_noteLoan 70 = .ok (.iconst 0, 1) := by decide +kernel
theorem dX1_noteLoan_71 : decode cX1_noteLoan 71 = .ok (.istore 8, 2) := by decide +kernel
theorem dX1_noteLoan_73 : decode cX1_noteLoan 73 = .ok (.iload 8, 2) := by decide +kernel
theorem dX1_noteLoan_75 : decode cX1_noteLoan 75 = .ok (.ifCond .eq 16, 3) := by decide +kernel
theorem dX1_noteLoan_78 : decode cX1_noteLoan 78 = .ok (.aload_n 0, 1) := by decide +kernel
theorem dX1_noteLoan_79 : decode cX1_noteLoan 79 = .ok (.iload_n 3, 1) := by decide +kernel
theorem dX1_noteLoan_80 : decode cX1_noteLoan 80 = .ok (.iload 4, 2) := by decide +kernel
theorem dX1_noteLoan_82 : decode cX1_noteLoan 82 = .ok (.invokestatic 92, 3) := by decide +kernel
theorem dX1_noteLoan_85 : decode cX1_noteLoan 85 = .ok (.iload 7, 2) := by decide +kernel
theorem dX1_noteLoan_87 : decode cX1_noteLoan 87 = .ok (.invokevirtual 70, 3) := by decide +kernel
theorem dX1_noteLoan_90 : decode cX1_noteLoan 90 = .ok (.return_, 1) := by decide +kernel
theorem dX1_noteLoan_91 : decode cX1_noteLoan 91 = .ok (.iinc 7 1, 3) := by decide +kernel
theorem dX1_noteLoan_94 : decode cX1_noteLoan 94 = .ok (.goto (-73), 3) := by decide +kernel
theorem dX1_noteLoan_97 : decode cX1_noteLoan 97 = .ok (.return_, 1) := by decide +kernel
theorem dX1_codeAgainst_0 : decode cX1_codeAgainst 0 = .ok (.iload_n 0, 1) := by decide +kernel
theorem dX1_codeAgainst_1 : decode cX1_codeAgainst 1 = .ok (.ifCond .ne 5, 3) := by decide +kernel
theorem dX1_codeAgainst_4 : decode cX1_codeAgainst 4 = .ok (.iconst 5, 1) := by decide +kernel
theorem dX1_codeAgainst_5 : decode cX1_codeAgainst 5 = .ok (.ireturn, 1) := by decide +kernel
theorem dX1_codeAgainst_6 : decode cX1_codeAgainst 6 = .ok (.iload_n 0, 1) := by decide +kernel
theorem dX1_codeAgainst_7 : decode cX1_codeAgainst 7 = .ok (.iconst 2, 1) := by decide +kernel
theorem dX1_codeAgainst_8 : decode cX1_codeAgainst 8 = .ok (.if_icmp .eq 8, 3) := by decide +kernel
theorem dX1_codeAgainst_11 : decode cX1_codeAgainst 11 = .ok (.iload_n 0, 1) := by decide +kernel
theorem dX1_codeAgainst_12 : decode cX1_codeAgainst 12 = .ok (.iconst 3, 1) := by decide +kernel
theorem dX1_codeAgainst_13 : decode cX1_codeAgainst 13 = .ok (.if_icmp .ne 7, 3) := by decide +kernel
theorem dX1_codeAgainst_16 : decode cX1_codeAgainst 16 = .ok (.iconst 3, 1) := by decide +kernel
theorem dX1_codeAgainst_17 : decode cX1_codeAgainst 17 = .ok (.goto 4, 3) := by decide +kernel
theorem dX1_codeAgainst_20 : decode cX1_codeAgainst 20 = .ok (.iconst 4, 1) := by decide +kernel
theorem dX1_codeAgainst_21 : decode cX1_codeAgainst 21 = .ok (.ireturn, 1) := by decide +kernel
theorem dX1_noteEnd_0 : decode cX1_noteEnd 0 = .ok (.iload_n 3, 1) := by decide +kernel
theorem dX1_noteEnd_1 : decode cX1_noteEnd 1 = .ok (.iconst 3, 1) := by decide +kernel
theorem dX1_noteEnd_2 : decode cX1_noteEnd 2 = .ok (.idiv, 1) := by decide +kernel
theorem dX1_noteEnd_3 : decode cX1_noteEnd 3 = .ok (.istore 4, 2) := by decide +kernel
theorem dX1_noteEnd_5 : decode cX1_noteEnd 5 = .ok (.aload_n 1, 1) := by decide +kernel
theorem dX1_noteEnd_6 : decode cX1_noteEnd 6 = .ok (.getfield 96, 3) := by decide +kernel
theorem dX1_noteEnd_9 : decode cX1_noteEnd 9 = .ok (.iload 4, 2) := by decide +kernel
theorem dX1_noteEnd_11 : decode cX1_noteEnd 11 = .ok (.iaload, 1) := by decide +kernel
theorem dX1_noteEnd_12 : decode cX1_noteEnd 12 = .ok (.bipush 9, 2) := by decide +kernel
theorem dX1_noteEnd_14 : decode cX1_noteEnd 14 = .ok (.if_icmp .eq 4, 3) := by decide +kernel
theorem dX1_noteEnd_17 : decode cX1_noteEnd 17 = .ok (.return_, 1) := by decide +kernel
theorem dX1_noteEnd_18 : decode cX1_noteEnd 18 = .ok (.aload_n 2, 1) := by decide +kernel
theorem dX1_noteEnd_19 : decode cX1_noteEnd 19 = .ok (.iload 4, 2) := by decide +kernel
theorem dX1_noteEnd_21 : decode cX1_noteEnd 21 = .ok (.aload_n 1, 1) := by decide +kernel
theorem dX1_noteEnd_22 : decode cX1_noteEnd 22 = .ok (.getfield 97, 3) := by decide +kernel
theorem dX1_noteEnd_25 : decode cX1_noteEnd 25 = .ok (.iload_n 3, 1) := by decide +kernel
theorem dX1_noteEnd_26 : decode cX1_noteEnd 26 = .ok (.iaload, 1) := by decide +kernel
theorem dX1_noteEnd_27 : decode cX1_noteEnd 27 = .ok (.invokevirtual 100, 3) := by decide +kernel
theorem dX1_noteEnd_30 : decode cX1_noteEnd 30 = .ok (.lstore 5, 2) := by decide +kernel
theorem dX1_noteEnd_32 : decode cX1_noteEnd 32 = .ok (.iconst 0, 1) := by decide +kernel
theorem dX1_noteEnd_33 : decode cX1_noteEnd 33 = .ok (.istore 7, 2) := by decide +kernel
theorem dX1_noteEnd_35 : decode cX1_noteEnd 35 = .ok (.iload 7, 2) := by decide +kernel
theorem dX1_noteEnd_37 : decode cX1_noteEnd 37 = .ok (.aload_n 1, 1) := by decide +kernel
theorem dX1_noteEnd_38 : decode cX1_noteEnd 38 = .ok (.getfield 78, 3) := by decide +kernel
theorem dX1_noteEnd_41 : decode cX1_noteEnd 41 = .ok (.if_icmp .ge 42, 3) := by decide +kernel
theorem dX1_noteEnd_44 : decode cX1_noteEnd 44 = .ok (.lload 5, 2) := by decide +kernel
theorem dX1_noteEnd_46 : decode cX1_noteEnd 46 = .ok (.iload 7, 2) := by decide +kernel
theorem dX1_noteEnd_48 : decode cX1_noteEnd 48 = .ok (.invokestatic 81, 3) := by decide +kernel
theorem dX1_noteEnd_51 : decode cX1_noteEnd 51 = .ok (.ifCond .eq 26, 3) := by decide +kernel
theorem dX1_noteEnd_54 : decode cX1_noteEnd 54 = .ok (.aload_n 1, 1) := by decide +kernel
theorem dX1_noteEnd_55 : decode cX1_noteEnd 55 = .ok (.getfield 53, 3) := by decide +kernel
theorem dX1_noteEnd_58 : decode cX1_noteEnd 58 = .ok (.iload 7, 2) := by decide +kernel
theorem dX1_noteEnd_60 : decode cX1_noteEnd 60 = .ok (.iconst 3, 1) := by decide +kernel
theorem dX1_noteEnd_61 : decode cX1_noteEnd 61 = .ok (.imul, 1) := by decide +kernel
theorem dX1_noteEnd_62 : decode cX1_noteEnd 62 = .ok (.iaload, 1) := by decide +kernel
theorem dX1_noteEnd_63 : decode cX1_noteEnd 63 = .ok (.iconst 3, 1) := by decide +kernel
theorem dX1_noteEnd_64 : decode cX1_noteEnd 64 = .ok (.if_icmp .eq 13, 3) := by decide +kernel
theorem dX1_noteEnd_67 : decode cX1_noteEnd 67 = .ok (.aload_n 0, 1) := by decide +kernel
theorem dX1_noteEnd_68 : decode cX1_noteEnd 68 = .ok (.iload_n 3, 1) := by decide +kernel
theorem dX1_noteEnd_69 : decode cX1_noteEnd 69 = .ok (.bipush 6, 2) := by decide +kernel
theorem dX1_noteEnd_71 : decode cX1_noteEnd 71 = .ok (.iload 7, 2) := by decide +kernel
theorem dX1_noteEnd_73 : decode cX1_noteEnd 73 = .ok (.invokevirtual 70, 3) := by decide +kernel
theorem dX1_noteEnd_76 : decode cX1_noteEnd 76 = .ok (.return_, 1) := by decide +kernel
theorem dX1_noteEnd_77 : decode cX1_noteEnd 77 = .ok (.iinc 7 1, 3) := by decide +kernel
theorem dX1_noteEnd_80 : decode cX1_noteEnd 80 = .ok (.goto (-45), 3) := by decide +kernel
theorem dX1_noteEnd_83 : decode cX1_noteEnd 83 = .ok (.return_, 1) := by decide +kernel
theorem dX1_note_0 : decode cX1_note 0 = .ok (.aload_n 0, 1) := by decide +kernel
theorem dX1_note_1 : decode cX1_note 1 = .ok (.getfield 21, 3) := by decide +kernel
theorem dX1_note_4 : decode cX1_note 4 = .ok (.aload_n 0, 1) := by decide +kernel
theorem dX1_note_5 : decode cX1_note 5 = .ok (.getfield 9, 3) := by decide +kernel
theorem dX1_note_8 : decode cX1_note 8 = .ok (.arraylength, 1) := by decide +kernel
theorem dX1_note_9 : decode cX1_note 9 = .ok (.if_icmp .ge 33, 3) := by decide +kernel
theorem dX1_note_12 : decode cX1_note 12 = .ok (.aload_n 0, 1) := by decide +kernel
theorem dX1_note_13 : decode cX1_note 13 = .ok (.getfield 9, 3) := by decide +kernel
theorem dX1_note_16 : decode cX1_note 16 = .ok (.aload_n 0, 1) := by decide +kernel
theorem dX1_note_17 : decode cX1_note 17 = .ok (.getfield 21, 3) := by decide +kernel
theorem dX1_note_20 : decode cX1_note 20 = .ok (.iload_n 1, 1) := by decide +kernel
theorem dX1_note_21 : decode cX1_note 21 = .ok (.iastore, 1) := by decide +kernel
theorem dX1_note_22 : decode cX1_note 22 = .ok (.aload_n 0, 1) := by decide +kernel
theorem dX1_note_23 : decode cX1_note 23 = .ok (.getfield 15, 3) := by decide +kernel
theorem dX1_note_26 : decode cX1_note 26 = .ok (.aload_n 0, 1) := by decide +kernel
theorem dX1_note_27 : decode cX1_note 27 = .ok (.getfield 21, 3) := by decide +kernel
theorem dX1_note_30 : decode cX1_note 30 = .ok (.iload_n 2, 1) := by decide +kernel
theorem dX1_note_31 : decode cX1_note 31 = .ok (.iastore, 1) := by decide +kernel
theorem dX1_note_32 : decode cX1_note 32 = .ok (.aload_n 0, 1) := by decide +kernel
theorem dX1_note_33 : decode cX1_note 33 = .ok (.getfield 18, 3) := by decide +kernel
theorem dX1_note_36 : decode cX1_note 36 = .ok (.aload_n 0, 1) := by decide +kernel
theorem dX1_note_37 : decode cX1_note 37 = .ok (.getfield 21, 3) := by decide +kernel
theorem dX1_note_40 : decode cX1_note 40 = .ok (.iload_n 3, 1) := by decide +kernel
theorem dX1_note_41 : decode cX1_note 41 = .ok (.iastore, 1) := by decide +kernel
theorem dX1_note_42 : decode cX1_note 42 = .ok (.aload_n 0, 1) := by decide +kernel
theorem dX1_note_43 : decode cX1_note 43 = .ok (.dup, 1) := by decide +kernel
theorem dX1_note_44 : decode cX1_note 44 = .ok (.getfield 21, 3) := by decide +kernel
theorem dX1_note_47 : decode cX1_note 47 = .ok (.iconst 1, 1) := by decide +kernel
theorem dX1_note_48 : decode cX1_note 48 = .ok (.iadd, 1) := by decide +kernel
theorem dX1_note_49 : decode cX1_note 49 = .ok (.putfield 21, 3) := by decide +kernel
theorem dX1_note_52 : decode cX1_note 52 = .ok (.return_, 1) := by decide +kernel
theorem dX1_rowCount_0 : decode cX1_rowCount 0 = .ok (.aload_n 0, 1) := by decide +kernel
theorem dX1_rowCount_1 : decode cX1_rowCount 1 = .ok (.getfield 21, 3) := by decide +kernel
theorem dX1_rowCount_4 : decode cX1_rowCount 4 = .ok (.aload_n 0, 1) := by decide +kernel
theorem dX1_rowCount_5 : decode cX1_rowCount 5 = .ok (.getfield 9, 3) := by decide +kernel
theorem dX1_rowCount_8 : decode cX1_rowCount 8 = .ok (.arraylength, 1) := by decide +kernel
theorem dX1_rowCount_9 : decode cX1_rowCount 9 = .ok (.invokestatic 104, 3) := by decide +kernel
theorem dX1_rowCount_12 : decode cX1_rowCount 12 = .ok (.ireturn, 1) := by decide +kernel
theorem dX1_countAt_0 : decode cX1_countAt 0 = .ok (.iconst 0, 1) := by decide +kernel
theorem dX1_countAt_1 : decode cX1_countAt 1 = .ok (.istore_n 2, 1) := by decide +kernel
theorem dX1_countAt_2 : decode cX1_countAt 2 = .ok (.iconst 0, 1) := by decide +kernel
theorem dX1_countAt_3 : decode cX1_countAt 3 = .ok (.istore_n 3, 1) := by decide +kernel
theorem dX1_countAt_4 : decode cX1_countAt 4 = .ok (.iload_n 3, 1) := by decide +kernel
theorem dX1_countAt_5 : decode cX1_countAt 5 = .ok (.aload_n 0, 1) := by decide +kernel
theorem dX1_countAt_6 : decode cX1_countAt 6 = .ok (.invokevirtual 110, 3) := by decide +kernel
theorem dX1_countAt_9 : decode cX1_countAt 9 = .ok (.if_icmp .ge 29, 3) := by decide +kernel
theorem dX1_countAt_12 : decode cX1_countAt 12 = .ok (.iload_n 2, 1) := by decide +kernel
theorem dX1_countAt_13 : decode cX1_countAt 13 = .ok (.aload_n 0, 1) := by decide +kernel
theorem dX1_countAt_14 : decode cX1_countAt 14 = .ok (.getfield 9, 3) := by decide +kernel
theorem dX1_countAt_17 : decode cX1_countAt 17 = .ok (.iload_n 3, 1) := by decide +kernel
theorem dX1_countAt_18 : decode cX1_countAt 18 = .ok (.iaload, 1) := by decide +kernel
theorem dX1_countAt_19 : decode cX1_countAt 19 = .ok (.iconst 3, 1) := by decide +kernel
theorem dX1_countAt_20 : decode cX1_countAt 20 = .ok (.idiv, 1) := by decide +kernel
theorem dX1_countAt_21 : decode cX1_countAt 21 = .ok (.iload_n 1, 1) := by decide +kernel
theorem dX1_countAt_22 : decode cX1_countAt 22 = .ok (.if_icmp .ne 7, 3) := by decide +kernel
theorem dX1_countAt_25 : decode cX1_countAt 25 = .ok (.iconst 1, 1) := by decide +kernel
theorem dX1_countAt_26 : decode cX1_countAt 26 = .ok (.goto 4, 3) := by decide +kernel
theorem dX1_countAt_29 : decode cX1_countAt 29 = .ok (.iconst 0, 1) := by decide +kernel
theorem dX1_countAt_30 : decode cX1_countAt 30 = .ok (.iadd, 1) := by decide +kernel
theorem dX1_countAt_31 : decode cX1_countAt 31 = .ok (.istore_n 2, 1) := by decide +kernel
theorem dX1_countAt_32 : decode cX1_countAt 32 = .ok (.iinc 3 1, 3) := by decide +kernel
theorem dX1_countAt_35 : decode cX1_countAt 35 = .ok (.goto (-31), 3) := by decide +kernel
theorem dX1_countAt_38 : decode cX1_countAt 38 = .ok (.iload_n 2, 1) := by decide +kernel
theorem dX1_countAt_39 : decode cX1_countAt 39 = .ok (.ireturn, 1) := by decide +kernel
theorem dX1_countOf_0 : decode cX1_countOf 0 = .ok (.iconst 0, 1) := by decide +kernel
theorem dX1_countOf_1 : decode cX1_countOf 1 = .ok (.istore_n 2, 1) := by decide +kernel
theorem dX1_countOf_2 : decode cX1_countOf 2 = .ok (.iconst 0, 1) := by decide +kernel
theorem dX1_countOf_3 : decode cX1_countOf 3 = .ok (.istore_n 3, 1) := by decide +kernel
theorem dX1_countOf_4 : decode cX1_countOf 4 = .ok (.iload_n 3, 1) := by decide +kernel
theorem dX1_countOf_5 : decode cX1_countOf 5 = .ok (.aload_n 0, 1) := by decide +kernel
theorem dX1_countOf_6 : decode cX1_countOf 6 = .ok (.invokevirtual 110, 3) := by decide +kernel
theorem dX1_countOf_9 : decode cX1_countOf 9 = .ok (.if_icmp .ge 27, 3) := by decide +kernel
theorem dX1_countOf_12 : decode cX1_countOf 12 = .ok (.iload_n 2, 1) := by decide +kernel
theorem dX1_countOf_13 : decode cX1_countOf 13 = .ok (.aload_n 0, 1) := by decide +kernel
theorem dX1_countOf_14 : decode cX1_countOf 14 = .ok (.getfield 15, 3) := by decide +kernel
theorem dX1_countOf_17 : decode cX1_countOf 17 = .ok (.iload_n 3, 1) := by decide +kernel
theorem dX1_countOf_18 : decode cX1_countOf 18 = .ok (.iaload, 1) := by decide +kernel
theorem dX1_countOf_19 : decode cX1_countOf 19 = .ok (.iload_n 1, 1) := by decide +kernel
theorem dX1_countOf_20 : decode cX1_countOf 20 = .ok (.if_icmp .ne 7, 3) := by decide +kernel
theorem dX1_countOf_23 : decode cX1_countOf 23 = .ok (.iconst 1, 1) := by decide +kernel
theorem dX1_countOf_24 : decode cX1_countOf 24 = .ok (.goto 4, 3) := by decide +kernel
theorem dX1_countOf_27 : decode cX1_countOf 27 = .ok (.iconst 0, 1) := by decide +kernel
theorem dX1_countOf_28 : decode cX1_countOf 28 = .ok (.iadd, 1) := by decide +kernel
theorem dX1_countOf_29 : decode cX1_countOf 29 = .ok (.istore_n 2, 1) := by decide +kernel
theorem dX1_countOf_30 : decode cX1_countOf 30 = .ok (.iinc 3 1, 3) := by decide +kernel
theorem dX1_countOf_33 : decode cX1_countOf 33 = .ok (.goto (-29), 3) := by decide +kernel
theorem dX1_countOf_36 : decode cX1_countOf 36 = .ok (.iload_n 2, 1) := by decide +kernel
theorem dX1_countOf_37 : decode cX1_countOf 37 = .ok (.ireturn, 1) := by decide +kernel
theorem dX2_init_0 : decode cX2_init 0 = .ok (.aload_n 0, 1) := by decide +kernel
theorem dX2_init_1 : decode cX2_init 1 = .ok (.invokespecial 3, 3) := by decide +kernel
theorem dX2_init_4 : decode cX2_init 4 = .ok (.aload_n 0, 1) := by decide +kernel
theorem dX2_init_5 : decode cX2_init 5 = .ok (.bipush 40, 2) := by decide +kernel
theorem dX2_init_7 : decode cX2_init 7 = .ok (.newarray .int, 2) := by decide +kernel
theorem dX2_init_9 : decode cX2_init 9 = .ok (.putfield 9, 3) := by decide +kernel
theorem dX2_init_12 : decode cX2_init 12 = .ok (.aload_n 0, 1) := by decide +kernel
theorem dX2_init_13 : decode cX2_init 13 = .ok (.bipush 40, 2) := by decide +kernel
theorem dX2_init_15 : decode cX2_init 15 = .ok (.newarray .int, 2) := by decide +kernel
theorem dX2_init_17 : decode cX2_init 17 = .ok (.putfield 15, 3) := by decide +kernel
theorem dX2_init_20 : decode cX2_init 20 = .ok (.aload_n 0, 1) := by decide +kernel
theorem dX2_init_21 : decode cX2_init 21 = .ok (.bipush 40, 2) := by decide +kernel
theorem dX2_init_23 : decode cX2_init 23 = .ok (.newarray .int, 2) := by decide +kernel
theorem dX2_init_25 : decode cX2_init 25 = .ok (.putfield 18, 3) := by decide +kernel
theorem dX2_init_28 : decode cX2_init 28 = .ok (.aload_n 0, 1) := by decide +kernel
theorem dX2_init_29 : decode cX2_init 29 = .ok (.bipush 40, 2) := by decide +kernel
theorem dX2_init_31 : decode cX2_init 31 = .ok (.newarray .int, 2) := by decide +kernel
theorem dX2_init_33 : decode cX2_init 33 = .ok (.putfield 21, 3) := by decide +kernel
theorem dX2_init_36 : decode cX2_init 36 = .ok (.aload_n 0, 1) := by decide +kernel
theorem dX2_init_37 : decode cX2_init 37 = .ok (.bipush 40, 2) := by decide +kernel
theorem dX2_init_39 : decode cX2_init 39 = .ok (.newarray .long, 2) := by decide +kernel
theorem dX2_init_41 : decode cX2_init 41 = .ok (.putfield 24, 3) := by decide +kernel
theorem dX2_init_44 : decode cX2_init 44 = .ok (.aload_n 0, 1) := by decide +kernel
theorem dX2_init_45 : decode cX2_init 45 = .ok (.bipush 40, 2) := by decide +kernel
theorem dX2_init_47 : decode cX2_init 47 = .ok (.newarray .long, 2) := by decide +kernel
theorem dX2_init_49 : decode cX2_init 49 = .ok (.putfield 28, 3) := by decide +kernel
theorem dX2_init_52 : decode cX2_init 52 = .ok (.aload_n 0, 1) := by decide +kernel
theorem dX2_init_53 : decode cX2_init 53 = .ok (.bipush 40, 2) := by decide +kernel
theorem dX2_init_55 : decode cX2_init 55 = .ok (.newarray .long, 2) := by decide +kernel
theorem dX2_init_57 : decode cX2_init 57 = .ok (.putfield 31, 3) := by decide +kernel
theorem dX2_init_60 : decode cX2_init 60 = .ok (.aload_n 0, 1) := by decide +kernel
theorem dX2_init_61 : decode cX2_init 61 = .ok (.bipush 40, 2) := by decide +kernel
theorem dX2_init_63 : decode cX2_init 63 = .ok (.newarray .long, 2) := by decide +kernel
theorem dX2_init_65 : decode cX2_init 65 = .ok (.putfield 34, 3) := by decide +kernel
theorem dX2_init_68 : decode cX2_init 68 = .ok (.return_, 1) := by decide +kernel
theorem dX2_prepare_0 : decode cX2_prepare 0 = .ok (.aload_n 0, 1) := by decide +kernel
theorem dX2_prepare_1 : decode cX2_prepare 1 = .ok (.aload_n 1, 1) := by decide +kernel
theorem dX2_prepare_2 : decode cX2_prepare 2 = .ok (.getfield 37, 3) := by decide +kernel
theorem dX2_prepare_5 : decode cX2_prepare 5 = .ok (.putfield 43, 3) := by decide +kernel
theorem dX2_prepare_8 : decode cX2_prepare 8 = .ok (.aload_n 0, 1) := by decide +kernel
theorem dX2_prepare_9 : decode cX2_prepare 9 = .ok (.iload_n 2, 1) := by decide +kernel
theorem dX2_prepare_10 : decode cX2_prepare 10 = .ok (.putfield 46, 3) := by decide +kernel
theorem dX2_prepare_13 : decode cX2_prepare 13 = .ok (.aload_n 0, 1) := by decide +kernel
theorem dX2_prepare_14 : decode cX2_prepare 14 = .ok (.iload_n 3, 1) := by decide +kernel
theorem dX2_prepare_15 : decode cX2_prepare 15 = .ok (.putfield 49, 3) := by decide +kernel
theorem dX2_prepare_18 : decode cX2_prepare 18 = .ok (.iconst 0, 1) := by decide +kernel
theorem dX2_prepare_19 : decode cX2_prepare 19 = .ok (.istore 4, 2) := by decide +kernel
theorem dX2_prepare_21 : decode cX2_prepare 21 = .ok (.iload 4, 2) := by decide +kernel
theorem dX2_prepare_23 : decode cX2_prepare 23 = .ok (.aload_n 0, 1) := by decide +kernel
theorem dX2_prepare_24 : decode cX2_prepare 24 = .ok (.getfield 43, 3) := by decide +kernel
theorem dX2_prepare_27 : decode cX2_prepare 27 = .ok (.if_icmp .ge 23, 3) := by decide +kernel
theorem dX2_prepare_30 : decode cX2_prepare 30 = .ok (.aload_n 0, 1) := by decide +kernel
theorem dX2_prepare_31 : decode cX2_prepare 31 = .ok (.aload_n 1, 1) := by decide +kernel
theorem dX2_prepare_32 : decode cX2_prepare 32 = .ok (.iload 4, 2) := by decide +kernel
theorem dX2_prepare_34 : decode cX2_prepare 34 = .ok (.invokevirtual 52, 3) := by decide +kernel
theorem dX2_prepare_37 : decode cX2_prepare 37 = .ok (.aload_n 0, 1) := by decide +kernel
theorem dX2_prepare_38 : decode cX2_prepare 38 = .ok (.aload_n 1, 1) := by decide +kernel
theorem dX2_prepare_39 : decode cX2_prepare 39 = .ok (.iload 4, 2) := by decide +kernel
theorem dX2_prepare_41 : decode cX2_prepare 41 = .ok (.invokevirtual 56, 3) := by decide +kernel
theorem dX2_prepare_44 : decode cX2_prepare 44 = .ok (.iinc 4 1, 3) := by decide +kernel
theorem dX2_prepare_47 : decode cX2_prepare 47 = .ok (.goto (-26), 3) := by decide +kernel
theorem dX2_prepare_50 : decode cX2_prepare 50 = .ok (.return_, 1) := by decide +kernel
theorem dX2_prepareWays_0 : decode cX2_prepareWays 0 = .ok (.iload_n 2, 1) := by decide +kernel
theorem dX2_prepareWays_1 : decode cX2_prepareWays 1 = .ok (.aload_n 0, 1) := by decide +kernel
theorem dX2_prepareWays_2 : decode cX2_prepareWays 2 = .ok (.getfield 46, 3) := by decide +kernel
theorem dX2_prepareWays_5 : decode cX2_prepareWays 5 = .ok (.if_icmp .ne 7, 3) := by decide +kernel
theorem dX2_prepareWays_8 : decode cX2_prepareWays 8 = .ok (.iconst 1, 1) := by decide +kernel
theorem dX2_prepareWays_9 : decode cX2_prepareWays 9 = .ok (.goto 4, 3) := by decide +kernel
theorem dX2_prepareWays_12 : decode cX2_prepareWays 12 = .ok (.iconst 0, 1) := by decide +kernel
theorem dX2_prepareWays_13 : decode cX2_prepareWays 13 = .ok (.istore_n 3, 1) := by decide +kernel
theorem dX2_prepareWays_14 : decode cX2_prepareWays 14 = .ok (.aload_n 1, 1) := by decide +kernel
theorem dX2_prepareWays_15 : decode cX2_prepareWays 15 = .ok (.getfield 59, 3) := by decide +kernel
theorem dX2_prepareWays_18 : decode cX2_prepareWays 18 = .ok (.iload_n 2, 1) := by decide +kernel
theorem dX2_prepareWays_19 : decode cX2_prepareWays 19 = .ok (.iaload, 1) := by decide +kernel
theorem dX2_prepareWays_20 : decode cX2_prepareWays 20 = .ok (.istore 4, 2) := by decide +kernel
theorem dX2_prepareWays_22 : decode cX2_prepareWays 22 = .ok (.iload_n 3, 1) := by decide +kernel
theorem dX2_prepareWays_23 : decode cX2_prepareWays 23 = .ok (.ifCond .ne 17, 3) := by decide +kernel
theorem dX2_prepareWays_26 : decode cX2_prepareWays 26 = .ok (.iload 4, 2) := by decide +kernel
theorem dX2_prepareWays_28 : decode cX2_prepareWays 28 = .ok (.bipush 8, 2) := by decide +kernel
theorem dX2_prepareWays_30 : decode cX2_prepareWays 30 = .ok (.if_icmp .eq 14, 3) := by decide +kernel
theorem dX2_prepareWays_33 : decode cX2_prepareWays 33 = .ok (.iload 4, 2) := by decide +kernel
theorem dX2_prepareWays_35 : decode cX2_prepareWays 35 = .ok (.bipush 9, 2) := by decide +kernel
theorem dX2_prepareWays_37 : decode cX2_prepareWays 37 = .ok (.if_icmp .eq 7, 3) := by decide +kernel
theorem dX2_prepareWays_40 : decode cX2_prepareWays 40 = .ok (.iconst 1, 1) := by decide +kernel
theorem dX2_prepareWays_41 : decode cX2_prepareWays 41 = .ok (.goto 4, 3) := by decide +kernel
theorem dX2_prepareWays_44 : decode cX2_prepareWays 44 = .ok (.iconst 0, 1) := by decide +kernel
theorem dX2_prepareWays_45 : decode cX2_prepareWays 45 = .ok (.istore 5, 2) := by decide +kernel
theorem dX2_prepareWays_47 : decode cX2_prepareWays 47 = .ok (.iload_n 3, 1) := by decide +kernel
theorem dX2_prepareWays_48 : decode cX2_prepareWays 48 = .ok (.ifCond .ne 15, 3) := by decide +kernel
theorem dX2_prepareWays_51 : decode cX2_prepareWays 51 = .ok (.aload_n 1, 1) := by decide +kernel
theorem dX2_prepareWays_52 : decode cX2_prepareWays 52 = .ok (.iload_n 2, 1) := by decide +kernel
theorem dX2_prepareWays_53 : decode cX2_prepareWays 53 = .ok (.invokevirtual 62, 3) := by decide +kernel
theorem dX2_prepareWays_56 : decode cX2_prepareWays 56 = .ok (.ifCond .eq 7, 3) := by decide +kernel
theorem dX2_prepareWays_59 : decode cX2_prepareWays 59 = .ok (.iconst 1, 1) := by decide +kernel
theorem dX2_prepareWays_60 : decode cX2_prepareWays 60 = .ok (.goto 4, 3) := by decide +kernel
theorem dX2_prepareWays_63 : decode cX2_prepareWays 63 = .ok (.iconst 0, 1) := by decide +kernel
theorem dX2_prepareWays_64 : decode cX2_prepareWays 64 = .ok (.istore 6, 2) := by decide +kernel
theorem dX2_prepareWays_66 : decode cX2_prepareWays 66 = .ok (.aload_n 0, 1) := by decide +kernel
theorem dX2_prepareWays_67 : decode cX2_prepareWays 67 = .ok (.getfield 9, 3) := by decide +kernel
theorem dX2_prepareWays_70 : decode cX2_prepareWays 70 = .ok (.iload_n 2, 1) := by decide +kernel
theorem dX2_prepareWays_71 : decode cX2_prepareWays 71 = .ok (.iload 5, 2) := by decide +kernel
theorem dX2_prepareWays_73 : decode cX2_prepareWays 73 = .ok (.ifCond .eq 13, 3) := by decide +kernel
theorem dX2_prepareWays_76 : decode cX2_prepareWays 76 = .ok (.aload_n 0, 1) := by decide +kernel
theorem dX2_prepareWays_77 : decode cX2_prepareWays 77 = .ok (.iload_n 2, 1) := by decide +kernel
theorem dX2_prepareWays_78 : decode cX2_prepareWays 78 = .ok (.iconst 1, 1) := by decide +kernel
theorem dX2_prepareWays_79 : decode cX2_prepareWays 79 = .ok (.iadd, 1) := by decide +kernel
theorem dX2_prepareWays_80 : decode cX2_prepareWays 80 = .ok (.invokevirtual 66, 3) := by decide +kernel
theorem dX2_prepareWays_83 : decode cX2_prepareWays 83 = .ok (.goto 4, 3) := by decide +kernel
theorem dX2_prepareWays_86 : decode cX2_prepareWays 86 = .ok (.iconst (-1), 1) := by decide +kernel
theorem dX2_prepareWays_87 : decode cX2_prepareWays 87 = .ok (.iastore, 1) := by decide +kernel
theorem dX2_prepareWays_88 : decode cX2_prepareWays 88 = .ok (.aload_n 0, 1) := by decide +kernel
theorem dX2_prepareWays_89 : decode cX2_prepareWays 89 = .ok (.getfield 15, 3) := by decide +kernel
theorem dX2_prepareWays_92 : decode cX2_prepareWays 92 = .ok (.iload_n 2, 1) := by decide +kernel
theorem dX2_prepareWays_93 : decode cX2_prepareWays 93 = .ok (.iload 6, 2) := by decide +kernel
theorem dX2_prepareWays_95 : decode cX2_prepareWays 95 = .ok (.ifCond .eq 16, 3) := by decide +kernel
theorem dX2_prepareWays_98 : decode cX2_prepareWays 98 = .ok (.aload_n 0, 1) := by decide +kernel
theorem dX2_prepareWays_99 : decode cX2_prepareWays 99 = .ok (.aload_n 1, 1) := by decide +kernel
theorem dX2_prepareWays_100 : decode cX2_prepareWays 100 = .ok (.getfield 70, 3) := by decide +kernel
theorem dX2_prepareWays_103 : decode cX2_prepareWays 103 = .ok (.iload_n 2, 1) := by decide +kernel
theorem dX2_prepareWays_104 : decode cX2_prepareWays 104 = .ok (.iaload, 1) := by decide +kernel
theorem dX2_prepareWays_105 : decode cX2_prepareWays 105 = .ok (.invokevirtual 66, 3) := by decide +kernel
theorem dX2_prepareWays_108 : decode cX2_prepareWays 108 = .ok (.goto 4, 3) := by decide +kernel
theorem dX2_prepareWays_111 : decode cX2_prepareWays 111 = .ok (.iconst (-1), 1) := by decide +kernel
theorem dX2_prepareWays_112 : decode cX2_prepareWays 112 = .ok (.iastore, 1) := by decide +kernel
theorem dX2_prepareWays_113 : decode cX2_prepareWays 113 = .ok (.return_, 1) := by decide +kernel
theorem dX2_existing_0 : decode cX2_existing 0 = .ok (.iload_n 1, 1) := by decide +kernel
theorem dX2_existing_1 : decode cX2_existing 1 = .ok (.aload_n 0, 1) := by decide +kernel
theorem dX2_existing_2 : decode cX2_existing 2 = .ok (.getfield 43, 3) := by decide +kernel
theorem dX2_existing_5 : decode cX2_existing 5 = .ok (.if_icmp .ge 7, 3) := by decide +kernel
theorem dX2_existing_8 : decode cX2_existing 8 = .ok (.iload_n 1, 1) := by decide +kernel
theorem dX2_existing_9 : decode cX2_existing 9 = .ok (.goto 4, 3) := by decide +kernel
theorem dX2_existing_12 : decode cX2_existing 12 = .ok (.iconst (-1), 1) := by decide +kernel
theorem dX2_existing_13 : decode cX2_existing 13 = .ok (.ireturn, 1) := by decide +kernel
theorem dX2_prepareEffects_0 : decode cX2_prepareEffects 0 = .ok (.aload_n 0, 1) := by decide +kernel
theorem dX2_prepareEffects_1 : decode cX2_prepareEffects 1 = .ok (.getfield 18, 3) := by decide +kernel
theorem dX2_prepareEffects_4 : decode cX2_prepareEffects 4 = .ok (.iload_n 2, 1) := by decide +kernel
theorem dX2_prepareEffects_5 : decode cX2_prepareEffects 5 = .ok (.iconst 0, 1) := by decide +kernel
theorem dX2_prepareEffects_6 : decode cX2_prepareEffects 6 = .ok (.iastore, 1) := by decide +kernel
theorem dX2_prepareEffects_7 : decode cX2_prepareEffects 7 = .ok (.aload_n 0, 1) := by decide +kernel
theorem dX2_prepareEffects_8 : decode cX2_prepareEffects 8 = .ok (.getfield 28, 3) := by decide +kernel
theorem dX2_prepareEffects_11 : decode cX2_prepareEffects 11 = .ok (.iload_n 2, 1) := by decide +kernel
theorem dX2_prepareEffects_12 : decode cX2_prepareEffects 12 = .ok (.lconst 0, 1) := by decide +kernel
theorem dX2_prepareEffects_13 : decode cX2_prepareEffects 13 = .ok (.lastore, 1) := by decide +kernel
theorem dX2_prepareEffects_14 : decode cX2_prepareEffects 14 = .ok (.aload_n 0, 1) := by decide +kernel
theorem dX2_prepareEffects_15 : decode cX2_prepareEffects 15 = .ok (.getfield 31, 3) := by decide +kernel
theorem dX2_prepareEffects_18 : decode cX2_prepareEffects 18 = .ok (.iload_n 2, 1) := by decide +kernel
theorem dX2_prepareEffects_19 : decode cX2_prepareEffects 19 = .ok (.lconst 0, 1) := by decide +kernel
theorem dX2_prepareEffects_20 : decode cX2_prepareEffects 20 = .ok (.lastore, 1) := by decide +kernel
theorem dX2_prepareEffects_21 : decode cX2_prepareEffects 21 = .ok (.aload_n 0, 1) := by decide +kernel
theorem dX2_prepareEffects_22 : decode cX2_prepareEffects 22 = .ok (.getfield 34, 3) := by decide +kernel
theorem dX2_prepareEffects_25 : decode cX2_prepareEffects 25 = .ok (.iload_n 2, 1) := by decide +kernel
theorem dX2_prepareEffects_26 : decode cX2_prepareEffects 26 = .ok (.lconst 0, 1) := by decide +kernel
theorem dX2_prepareEffects_27 : decode cX2_prepareEffects 27 = .ok (.lastore, 1) := by decide +kernel
theorem dX2_prepareEffects_28 : decode cX2_prepareEffects 28 = .ok (.aload_n 0, 1) := by decide +kernel
theorem dX2_prepareEffects_29 : decode cX2_prepareEffects 29 = .ok (.aload_n 1, 1) := by decide +kernel
theorem dX2_prepareEffects_30 : decode cX2_prepareEffects 30 = .ok (.iload_n 2, 1) := by decide +kernel
theorem dX2_prepareEffects_31 : decode cX2_prepareEffects 31 = .ok (.invokevirtual 73, 3) := by decide +kernel
theorem dX2_prepareEffects_34 : decode cX2_prepareEffects 34 = .ok (.istore_n 3, 1) := by decide +kernel
theorem dX2_prepareEffects_35 : decode cX2_prepareEffects 35 = .ok (.iconst 0, 1) := by decide +kernel
theorem dX2_prepareEffects_36 : decode cX2_prepareEffects 36 = .ok (.istore 4, 2) := by decide +kernel
theorem dX2_prepareEffects_38 : decode cX2_prepareEffects 38 = .ok (.iload 4, 2) := by decide +kernel
theorem dX2_prepareEffects_40 : decode cX2_prepareEffects 40 = .ok (.iload_n 3, 1) := by decide +kernel
theorem dX2_prepareEffects_41 : decode cX2_prepareEffects 41 = .ok (.if_icmp .ge 21, 3) := by decide +kernel
theorem dX2_prepareEffects_44 : decode cX2_prepareEffects 44 = .ok (.aload_n 0, 1) := by decide +kernel
theorem dX2_prepareEffects_45 : decode cX2_prepareEffects 45 = .ok (.aload_n 1, 1) := by decide +kernel
theorem dX2_prepareEffects_46 : decode cX2_prepareEffects 46 = .ok (.iload_n 2, 1) := by decide +kernel
theorem dX2_prepareEffects_47 : decode cX2_prepareEffects 47 = .ok (.iload_n 2, 1) := by decide +kernel
theorem dX2_prepareEffects_48 : decode cX2_prepareEffects 48 = .ok (.iconst 3, 1) := by decide +kernel
theorem dX2_prepareEffects_49 : decode cX2_prepareEffects 49 = .ok (.imul, 1) := by decide +kernel
theorem dX2_prepareEffects_50 : decode cX2_prepareEffects 50 = .ok (.iload 4, 2) := by decide +kernel
theorem dX2_prepareEffects_52 : decode cX2_prepareEffects 52 = .ok (.iadd, 1) := by decide +kernel
theorem dX2_prepareEffects_53 : decode cX2_prepareEffects 53 = .ok (.invokevirtual 77, 3) := by decide +kernel
theorem dX2_prepareEffects_56 : decode cX2_prepareEffects 56 = .ok (.iinc 4 1, 3) := by decide +kernel
theorem dX2_prepareEffects_59 : decode cX2_prepareEffects 59 = .ok (.goto (-21), 3) := by decide +kernel
theorem dX2_prepareEffects_62 : decode cX2_prepareEffects 62 = .ok (.aload_n 0, 1) := by decide +kernel
theorem dX2_prepareEffects_63 : decode cX2_prepareEffects 63 = .ok (.getfield 24, 3) := by decide +kernel
theorem dX2_prepareEffects_66 : decode cX2_prepareEffects 66 = .ok (.iload_n 2, 1) := by decide +kernel
theorem dX2_prepareEffects_67 : decode cX2_prepareEffects 67 = .ok (.aload_n 0, 1) := by decide +kernel
theorem dX2_prepareEffects_68 : decode cX2_prepareEffects 68 = .ok (.getfield 28, 3) := by decide +kernel
theorem dX2_prepareEffects_71 : decode cX2_prepareEffects 71 = .ok (.iload_n 2, 1) := by decide +kernel
theorem dX2_prepareEffects_72 : decode cX2_prepareEffects 72 = .ok (.laload, 1) := by decide +kernel
theorem dX2_prepareEffects_73 : decode cX2_prepareEffects 73 = .ok (.aload_n 0, 1) := by decide +kernel
theorem dX2_prepareEffects_74 : decode cX2_prepareEffects 74 = .ok (.getfield 31, 3) := by decide +kernel
theorem dX2_prepareEffects_77 : decode cX2_prepareEffects 77 = .ok (.iload_n 2, 1) := by decide +kernel
theorem dX2_prepareEffects_78 : decode cX2_prepareEffects 78 = .ok (.laload, 1) := by decide +kernel
theorem dX2_prepareEffects_79 : decode cX2_prepareEffects 79 = .ok (.lor, 1) := by decide +kernel
theorem dX2_prepareEffects_80 : decode cX2_prepareEffects 80 = .ok (.aload_n 0, 1) := by decide +kernel
theorem dX2_prepareEffects_81 : decode cX2_prepareEffects 81 = .ok (.getfield 34, 3) := by decide +kernel
theorem dX2_prepareEffects_84 : decode cX2_prepareEffects 84 = .ok (.iload_n 2, 1) := by decide +kernel
theorem dX2_prepareEffects_85 : decode cX2_prepareEffects 85 = .ok (.laload, 1) := by decide +kernel
theorem dX2_prepareEffects_86 : decode cX2_prepareEffects 86 = .ok (.lor, 1) := by decide +kernel
theorem dX2_prepareEffects_87 : decode cX2_prepareEffects 87 = .ok (.lastore, 1) := by decide +kernel
theorem dX2_prepareEffects_88 : decode cX2_prepareEffects 88 = .ok (.iload_n 2, 1) := by decide +kernel
theorem dX2_prepareEffects_89 : decode cX2_prepareEffects 89 = .ok (.aload_n 0, 1) := by decide +kernel
theorem dX2_prepareEffects_90 : decode cX2_prepareEffects 90 = .ok (.getfield 46, 3) := by decide +kernel
theorem dX2_prepareEffects_93 : decode cX2_prepareEffects 93 = .ok (.if_icmp .ne 7, 3) := by decide +kernel
theorem dX2_prepareEffects_96 : decode cX2_prepareEffects 96 = .ok (.iconst (-1), 1) := by decide +kernel
theorem dX2_prepareEffects_97 : decode cX2_prepareEffects 97 = .ok (.goto 9, 3) := by decide +kernel
theorem dX2_prepareEffects_100 : decode cX2_prepareEffects 100 = .ok (.aload_n 1, 1) := by decide +kernel
theorem dX2_prepareEffects_101 : decode cX2_prepareEffects 101 = .ok (.getfield 81, 3) := by decide +kernel
theorem dX2_prepareEffects_104 : decode cX2_prepareEffects 104 = .ok (.iload_n 2, 1) := by decide +kernel
theorem dX2_prepareEffects_105 : decode cX2_prepareEffects 105 = .ok (.iaload, 1) := by decide +kernel
theorem dX2_prepareEffects_106 : decode cX2_prepareEffects 106 = .ok (.istore 4, 2) := by decide +kernel
theorem dX2_prepareEffects_108 : decode cX2_prepareEffects 108 = .ok (.aload_n 0, 1) := by decide +kernel
theorem dX2_prepareEffects_109 : decode cX2_prepareEffects 109 = .ok (.getfield 21, 3) := by decide +kernel
theorem dX2_prepareEffects_112 : decode cX2_prepareEffects 112 = .ok (.iload_n 2, 1) := by decide +kernel
theorem dX2_prepareEffects_113 : decode cX2_prepareEffects 113 = .ok (.iload 4, 2) := by decide +kernel
theorem dX2_prepareEffects_115 : decode cX2_prepareEffects 115 = .ok (.iconst (-1), 1) := by decide +kernel
theorem dX2_prepareEffects_116 : decode cX2_prepareEffects 116 = .ok (.if_icmp .ne 7, 3) := by decide +kernel
theorem dX2_prepareEffects_119 : decode cX2_prepareEffects 119 = .ok (.iconst 0, 1) := by decide +kernel
theorem dX2_prepareEffects_120 : decode cX2_prepareEffects 120 = .ok (.goto 7, 3) := by decide +kernel
theorem dX2_prepareEffects_123 : decode cX2_prepareEffects 123 = .ok (.iconst 1, 1) := by decide +kernel
theorem dX2_prepareEffects_124 : decode cX2_prepareEffects 124 = .ok (.iload 4, 2) := by decide +kernel
theorem dX2_prepareEffects_126 : decode cX2_prepareEffects 126 = .ok (.ishl, 1) := by decide +kernel
theorem dX2_prepareEffects_127 : decode cX2_prepareEffects 127 = .ok (.iastore, 1) := by decide +kernel
theorem dX2_prepareEffects_128 : decode cX2_prepareEffects 128 = .ok (.return_, 1) := by decide +kernel
theorem dX2_addEffect_0 : decode cX2_addEffect 0 = .ok (.aload_n 0, 1) := by decide +kernel
theorem dX2_addEffect_1 : decode cX2_addEffect 1 = .ok (.aload_n 1, 1) := by decide +kernel
theorem dX2_addEffect_2 : decode cX2_addEffect 2 = .ok (.iload_n 2, 1) := by decide +kernel
theorem dX2_addEffect_3 : decode cX2_addEffect 3 = .ok (.iload_n 3, 1) := by decide +kernel
theorem dX2_addEffect_4 : decode cX2_addEffect 4 = .ok (.invokevirtual 84, 3) := by decide +kernel
theorem dX2_addEffect_7 : decode cX2_addEffect 7 = .ok (.istore 4, 2) := by decide +kernel
theorem dX2_addEffect_9 : decode cX2_addEffect 9 = .ok (.aload_n 1, 1) := by decide +kernel
theorem dX2_addEffect_10 : decode cX2_addEffect 10 = .ok (.getfield 88, 3) := by decide +kernel
theorem dX2_addEffect_13 : decode cX2_addEffect 13 = .ok (.iload_n 3, 1) := by decide +kernel
theorem dX2_addEffect_14 : decode cX2_addEffect 14 = .ok (.iaload, 1) := by decide +kernel
theorem dX2_addEffect_15 : decode cX2_addEffect 15 = .ok (.istore 5, 2) := by decide +kernel
theorem dX2_addEffect_17 : decode cX2_addEffect 17 = .ok (.aload_n 1, 1) := by decide +kernel
theorem dX2_addEffect_18 : decode cX2_addEffect 18 = .ok (.iload 4, 2) := by decide +kernel
theorem dX2_addEffect_20 : decode cX2_addEffect 20 = .ok (.iload 5, 2) := by decide +kernel
theorem dX2_addEffect_22 : decode cX2_addEffect 22 = .ok (.invokevirtual 91, 3) := by decide +kernel
theorem dX2_addEffect_25 : decode cX2_addEffect 25 = .ok (.ifCond .eq 20, 3) := by decide +kernel
theorem dX2_addEffect_28 : decode cX2_addEffect 28 = .ok (.aload_n 0, 1) := by decide +kernel
theorem dX2_addEffect_29 : decode cX2_addEffect 29 = .ok (.getfield 18, 3) := by decide +kernel
theorem dX2_addEffect_32 : decode cX2_addEffect 32 = .ok (.iload_n 2, 1) := by decide +kernel
theorem dX2_addEffect_33 : decode cX2_addEffect 33 = .ok (.dup2, 1) := by decide +kernel
theorem dX2_addEffect_34 : decode cX2_addEffect 34 = .ok (.iaload, 1) := by decide +kernel
theorem dX2_addEffect_35 : decode cX2_addEffect 35 = .ok (.iconst 1, 1) := by decide +kernel
theorem dX2_addEffect_36 : decode cX2_addEffect 36 = .ok (.aload_n 1, 1) := by decide +kernel
theorem dX2_addEffect_37 : decode cX2_addEffect 37 = .ok (.getfield 95, 3) := by decide +kernel
theorem dX2_addEffect_40 : decode cX2_addEffect 40 = .ok (.iload_n 3, 1) := by decide +kernel
theorem dX2_addEffect_41 : decode cX2_addEffect 41 = .ok (.iaload, 1) := by decide +kernel
theorem dX2_addEffect_42 : decode cX2_addEffect 42 = .ok (.ishl, 1) := by decide +kernel
theorem dX2_addEffect_43 : decode cX2_addEffect 43 = .ok (.ior, 1) := by decide +kernel
theorem dX2_addEffect_44 : decode cX2_addEffect 44 = .ok (.iastore, 1) := by decide +kernel
theorem dX2_addEffect_45 : decode cX2_addEffect 45 = .ok (.iload 4, 2) := by decide +kernel
theorem dX2_addEffect_47 : decode cX2_addEffect 47 = .ok (.iconst 2, 1) := by decide +kernel
theorem dX2_addEffect_48 : decode cX2_addEffect 48 = .ok (.if_icmp .eq 21, 3) := by decide +kernel
theorem dX2_addEffect_51 : decode cX2_addEffect 51 = .ok (.iload 4, 2) := by decide +kernel
theorem dX2_addEffect_53 : decode cX2_addEffect 53 = .ok (.iconst 3, 1) := by decide +kernel
theorem dX2_addEffect_54 : decode cX2_addEffect 54 = .ok (.if_icmp .eq 15, 3) := by decide +kernel
theorem dX2_addEffect_57 : decode cX2_addEffect 57 = .ok (.iload 4, 2) := by decide +kernel
theorem dX2_addEffect_59 : decode cX2_addEffect 59 = .ok (.iconst 1, 1) := by decide +kernel
theorem dX2_addEffect_60 : decode cX2_addEffect 60 = .ok (.if_icmp .ne 13, 3) := by decide +kernel
theorem dX2_addEffect_63 : decode cX2_addEffect 63 = .ok (.iload 5, 2) := by decide +kernel
theorem dX2_addEffect_65 : decode cX2_addEffect 65 = .ok (.iconst 3, 1) := by decide +kernel
theorem dX2_addEffect_66 : decode cX2_addEffect 66 = .ok (.if_icmp .eq 7, 3) := by decide +kernel
theorem dX2_addEffect_69 : decode cX2_addEffect 69 = .ok (.iconst 1, 1) := by decide +kernel
theorem dX2_addEffect_70 : decode cX2_addEffect 70 = .ok (.goto 4, 3) := by decide +kernel
theorem dX2_addEffect_73 : decode cX2_addEffect 73 = .ok (.iconst 0, 1) := by decide +kernel
theorem dX2_addEffect_74 : decode cX2_addEffect 74 = .ok (.istore 6, 2) := by decide +kernel
theorem dX2_addEffect_76 : decode cX2_addEffect 76 = .ok (.iload 6, 2) := by decide +kernel
theorem dX2_addEffect_78 : decode cX2_addEffect 78 = .ok (.ifCond .ne 4, 3) := by decide +kernel
theorem dX2_addEffect_81 : decode cX2_addEffect 81 = .ok (.return_, 1) := by decide +kernel
theorem dX2_addEffect_82 : decode cX2_addEffect 82 = .ok (.aload_n 1, 1) := by decide +kernel
theorem dX2_addEffect_83 : decode cX2_addEffect 83 = .ok (.aload_n 1, 1) := by decide +kernel
theorem dX2_addEffect_84 : decode cX2_addEffect 84 = .ok (.getfield 95, 3) := by decide +kernel
theorem dX2_addEffect_87 : decode cX2_addEffect 87 = .ok (.iload_n 3, 1) := by decide +kernel
theorem dX2_addEffect_88 : decode cX2_addEffect 88 = .ok (.iaload, 1) := by decide +kernel
theorem dX2_addEffect_89 : decode cX2_addEffect 89 = .ok (.iload 5, 2) := by decide +kernel
theorem dX2_addEffect_91 : decode cX2_addEffect 91 = .ok (.invokevirtual 98, 3) := by decide +kernel
theorem dX2_addEffect_94 : decode cX2_addEffect 94 = .ok (.lstore 7, 2) := by decide +kernel
theorem dX2_addEffect_96 : decode cX2_addEffect 96 = .ok (.aload_n 0, 1) := by decide +kernel
theorem dX2_addEffect_97 : decode cX2_addEffect 97 = .ok (.getfield 28, 3) := by decide +kernel
theorem dX2_addEffect_100 : decode cX2_addEffect 100 = .ok (.iload_n 2, 1) := by decide +kernel
theorem dX2_addEffect_101 : decode cX2_addEffect 101 = .ok (.dup2, 1) := by decide +kernel
theorem dX2_addEffect_102 : decode cX2_addEffect 102 = .ok (.laload, 1) := by decide +kernel
theorem dX2_addEffect_103 : decode cX2_addEffect 103 = .ok (.lload 7, 2) := by decide +kernel
theorem dX2_addEffect_105 : decode cX2_addEffect 105 = .ok (.ldc2_w 102, 3) := by decide +kernel
theorem dX2_addEffect_108 : decode cX2_addEffect 108 = .ok (.lxor, 1) := by decide +kernel
theorem dX2_addEffect_109 : decode cX2_addEffect 109 = .ok (.land, 1) := by decide +kernel
theorem dX2_addEffect_110 : decode cX2_addEffect 110 = .ok (.lastore, 1) := by decide +kernel
theorem dX2_addEffect_111 : decode cX2_addEffect 111 = .ok (.aload_n 0, 1) := by decide +kernel
theorem dX2_addEffect_112 : decode cX2_addEffect 112 = .ok (.getfield 31, 3) := by decide +kernel
theorem dX2_addEffect_115 : decode cX2_addEffect 115 = .ok (.iload_n 2, 1) := by decide +kernel
theorem dX2_addEffect_116 : decode cX2_addEffect 116 = .ok (.dup2, 1) := by decide +kernel
theorem dX2_addEffect_117 : decode cX2_addEffect 117 = .ok (.laload, 1) := by decide +kernel
theorem dX2_addEffect_118 : decode cX2_addEffect 118 = .ok (.lload 7, 2) := by decide +kernel
theorem dX2_addEffect_120 : decode cX2_addEffect 120 = .ok (.ldc2_w 102, 3) := by decide +kernel
theorem dX2_addEffect_123 : decode cX2_addEffect 123 = .ok (.lxor, 1) := by decide +kernel
theorem dX2_addEffect_124 : decode cX2_addEffect 124 = .ok (.land, 1) := by decide +kernel
theorem dX2_addEffect_125 : decode cX2_addEffect 125 = .ok (.lastore, 1) := by decide +kernel
theorem dX2_addEffect_126 : decode cX2_addEffect 126 = .ok (.aload_n 0, 1) := by decide +kernel
theorem dX2_addEffect_127 : decode cX2_addEffect 127 = .ok (.getfield 34, 3) := by decide +kernel
theorem dX2_addEffect_130 : decode cX2_addEffect 130 = .ok (.iload_n 2, 1) := by decide +kernel
theorem dX2_addEffect_131 : decode cX2_addEffect 131 = .ok (.dup2, 1) := by decide +kernel
theorem dX2_addEffect_132 : decode cX2_addEffect 132 = .ok (.laload, 1) := by decide +kernel
theorem dX2_addEffect_133 : decode cX2_addEffect 133 = .ok (.lload 7, 2) := by decide +kernel
theorem dX2_addEffect_135 : decode cX2_addEffect 135 = .ok (.ldc2_w 102, 3) := by decide +kernel
theorem dX2_addEffect_138 : decode cX2_addEffect 138 = .ok (.lxor, 1) := by decide +kernel
theorem dX2_addEffect_139 : decode cX2_addEffect 139 = .ok (.land, 1) := by decide +kernel
theorem dX2_addEffect_140 : decode cX2_addEffect 140 = .ok (.lastore, 1) := by decide +kernel
theorem dX2_addEffect_141 : decode cX2_addEffect 141 = .ok (.iload 4, 2) := by decide +kernel
theorem dX2_addEffect_143 : decode cX2_addEffect 143 = .ok (.iconst 3, 1) := by decide +kernel
theorem dX2_addEffect_144 : decode cX2_addEffect 144 = .ok (.if_icmp .ne 17, 3) := by decide +kernel
theorem dX2_addEffect_147 : decode cX2_addEffect 147 = .ok (.aload_n 0, 1) := by decide +kernel
theorem dX2_addEffect_148 : decode cX2_addEffect 148 = .ok (.getfield 28, 3) := by decide +kernel
theorem dX2_addEffect_151 : decode cX2_addEffect 151 = .ok (.iload_n 2, 1) := by decide +kernel
theorem dX2_addEffect_152 : decode cX2_addEffect 152 = .ok (.dup2, 1) := by decide +kernel
theorem dX2_addEffect_153 : decode cX2_addEffect 153 = .ok (.laload, 1) := by decide +kernel
theorem dX2_addEffect_154 : decode cX2_addEffect 154 = .ok (.lload 7, 2) := by decide +kernel
theorem dX2_addEffect_156 : decode cX2_addEffect 156 = .ok (.lor, 1) := by decide +kernel
theorem dX2_addEffect_157 : decode cX2_addEffect 157 = .ok (.lastore, 1) := by decide +kernel
theorem dX2_addEffect_158 : decode cX2_addEffect 158 = .ok (.goto 34, 3) := by decide +kernel
theorem dX2_addEffect_161 : decode cX2_addEffect 161 = .ok (.iload 4, 2) := by decide +kernel
theorem dX2_addEffect_163 : decode cX2_addEffect 163 = .ok (.iconst 2, 1) := by decide +kernel
theorem dX2_addEffect_164 : decode cX2_addEffect 164 = .ok (.if_icmp .ne 17, 3) := by decide +kernel
theorem dX2_addEffect_167 : decode cX2_addEffect 167 = .ok (.aload_n 0, 1) := by decide +kernel
theorem dX2_addEffect_168 : decode cX2_addEffect 168 = .ok (.getfield 34, 3) := by decide +kernel
theorem dX2_addEffect_171 : decode cX2_addEffect 171 = .ok (.iload_n 2, 1) := by decide +kernel
theorem dX2_addEffect_172 : decode cX2_addEffect 172 = .ok (.dup2, 1) := by decide +kernel
theorem dX2_addEffect_173 : decode cX2_addEffect 173 = .ok (.laload, 1) := by decide +kernel
theorem dX2_addEffect_174 : decode cX2_addEffect 174 = .ok (.lload 7, 2) := by decide +kernel
theorem dX2_addEffect_176 : decode cX2_addEffect 176 = .ok (.lor, 1) := by decide +kernel
theorem dX2_addEffect_177 : decode cX2_addEffect 177 = .ok (.lastore, 1) := by decide +kernel
theorem dX2_addEffect_178 : decode cX2_addEffect 178 = .ok (.goto 14, 3) := by decide +kernel
theorem dX2_addEffect_181 : decode cX2_addEffect 181 = .ok (.aload_n 0, 1) := by decide +kernel
theorem dX2_addEffect_182 : decode cX2_addEffect 182 = .ok (.getfield 31, 3) := by decide +kernel
theorem dX2_addEffect_185 : decode cX2_addEffect 185 = .ok (.iload_n 2, 1) := by decide +kernel
theorem dX2_addEffect_186 : decode cX2_addEffect 186 = .ok (.dup2, 1) := by decide +kernel
theorem dX2_addEffect_187 : decode cX2_addEffect 187 = .ok (.laload, 1) := by decide +kernel
theorem dX2_addEffect_188 : decode cX2_addEffect 188 = .ok (.lload 7, 2) := by decide +kernel
theorem dX2_addEffect_190 : decode cX2_addEffect 190 = .ok (.lor, 1) := by decide +kernel
theorem dX2_addEffect_191 : decode cX2_addEffect 191 = .ok (.lastore, 1) := by decide +kernel
theorem dX2_addEffect_192 : decode cX2_addEffect 192 = .ok (.return_, 1) := by decide +kernel
theorem dX2_accessesOf_0 : decode cX2_accessesOf 0 = .ok (.iload_n 2, 1) := by decide +kernel
theorem dX2_accessesOf_1 : decode cX2_accessesOf 1 = .ok (.aload_n 0, 1) := by decide +kernel
theorem dX2_accessesOf_2 : decode cX2_accessesOf 2 = .ok (.getfield 46, 3) := by decide +kernel
theorem dX2_accessesOf_5 : decode cX2_accessesOf 5 = .ok (.if_icmp .ne 7, 3) := by decide +kernel
theorem dX2_accessesOf_8 : decode cX2_accessesOf 8 = .ok (.iconst 0, 1) := by decide +kernel
theorem dX2_accessesOf_9 : decode cX2_accessesOf 9 = .ok (.goto 9, 3) := by decide +kernel
theorem dX2_accessesOf_12 : decode cX2_accessesOf 12 = .ok (.aload_n 1, 1) := by decide +kernel
theorem dX2_accessesOf_13 : decode cX2_accessesOf 13 = .ok (.getfield 104, 3) := by decide +kernel
theorem dX2_accessesOf_16 : decode cX2_accessesOf 16 = .ok (.iload_n 2, 1) := by decide +kernel
theorem dX2_accessesOf_17 : decode cX2_accessesOf 17 = .ok (.iaload, 1) := by decide +kernel
theorem dX2_accessesOf_18 : decode cX2_accessesOf 18 = .ok (.ireturn, 1) := by decide +kernel
theorem dX2_actAt_0 : decode cX2_actAt 0 = .ok (.aload_n 1, 1) := by decide +kernel
theorem dX2_actAt_1 : decode cX2_actAt 1 = .ok (.getfield 107, 3) := by decide +kernel
theorem dX2_actAt_4 : decode cX2_actAt 4 = .ok (.iload_n 3, 1) := by decide +kernel
theorem dX2_actAt_5 : decode cX2_actAt 5 = .ok (.iaload, 1) := by decide +kernel
theorem dX2_actAt_6 : decode cX2_actAt 6 = .ok (.istore 4, 2) := by decide +kernel
theorem dX2_actAt_8 : decode cX2_actAt 8 = .ok (.iload 4, 2) := by decide +kernel
theorem dX2_actAt_10 : decode cX2_actAt 10 = .ok (.iconst 2, 1) := by decide +kernel
theorem dX2_actAt_11 : decode cX2_actAt 11 = .ok (.if_icmp .ne 15, 3) := by decide +kernel
theorem dX2_actAt_14 : decode cX2_actAt 14 = .ok (.iload_n 2, 1) := by decide +kernel
theorem dX2_actAt_15 : decode cX2_actAt 15 = .ok (.aload_n 0, 1) := by decide +kernel
theorem dX2_actAt_16 : decode cX2_actAt 16 = .ok (.getfield 49, 3) := by decide +kernel
theorem dX2_actAt_19 : decode cX2_actAt 19 = .ok (.if_icmp .ne 7, 3) := by decide +kernel
theorem dX2_actAt_22 : decode cX2_actAt 22 = .ok (.iconst 0, 1) := by decide +kernel
theorem dX2_actAt_23 : decode cX2_actAt 23 = .ok (.goto 5, 3) := by decide +kernel
theorem dX2_actAt_26 : decode cX2_actAt 26 = .ok (.iload 4, 2) := by decide +kernel
theorem dX2_actAt_28 : decode cX2_actAt 28 = .ok (.ireturn, 1) := by decide +kernel
theorem dX3_init_0 : decode cX3_init 0 = .ok (.aload_n 0, 1) := by decide +kernel
theorem dX3_init_1 : decode cX3_init 1 = .ok (.invokespecial 3, 3) := by decide +kernel
theorem dX3_init_4 : decode cX3_init 4 = .ok (.aload_n 0, 1) := by decide +kernel
theorem dX3_init_5 : decode cX3_init 5 = .ok (.bipush 12, 2) := by decide +kernel
theorem dX3_init_7 : decode cX3_init 7 = .ok (.newarray .int, 2) := by decide +kernel
theorem dX3_init_9 : decode cX3_init 9 = .ok (.putfield 9, 3) := by decide +kernel
theorem dX3_init_12 : decode cX3_init 12 = .ok (.aload_n 0, 1) := by decide +kernel
theorem dX3_init_13 : decode cX3_init 13 = .ok (.bipush 40, 2) := by decide +kernel
theorem dX3_init_15 : decode cX3_init 15 = .ok (.newarray .int, 2) := by decide +kernel
theorem dX3_init_17 : decode cX3_init 17 = .ok (.putfield 15, 3) := by decide +kernel
theorem dX3_init_20 : decode cX3_init 20 = .ok (.aload_n 0, 1) := by decide +kernel
theorem dX3_init_21 : decode cX3_init 21 = .ok (.bipush 40, 2) := by decide +kernel
theorem dX3_init_23 : decode cX3_init 23 = .ok (.newarray .int, 2) := by decide +kernel
theorem dX3_init_25 : decode cX3_init 25 = .ok (.putfield 18, 3) := by decide +kernel
theorem dX3_init_28 : decode cX3_init 28 = .ok (.aload_n 0, 1) := by decide +kernel
theorem dX3_init_29 : decode cX3_init 29 = .ok (.bipush 40, 2) := by decide +kernel
theorem dX3_init_31 : decode cX3_init 31 = .ok (.newarray .int, 2) := by decide +kernel
theorem dX3_init_33 : decode cX3_init 33 = .ok (.putfield 21, 3) := by decide +kernel
theorem dX3_init_36 : decode cX3_init 36 = .ok (.aload_n 0, 1) := by decide +kernel
theorem dX3_init_37 : decode cX3_init 37 = .ok (.bipush 40, 2) := by decide +kernel
theorem dX3_init_39 : decode cX3_init 39 = .ok (.newarray .int, 2) := by decide +kernel
theorem dX3_init_41 : decode cX3_init 41 = .ok (.putfield 24, 3) := by decide +kernel
theorem dX3_init_44 : decode cX3_init 44 = .ok (.aload_n 0, 1) := by decide +kernel
theorem dX3_init_45 : decode cX3_init 45 = .ok (.bipush 40, 2) := by decide +kernel
theorem dX3_init_47 : decode cX3_init 47 = .ok (.newarray .int, 2) := by decide +kernel
theorem dX3_init_49 : decode cX3_init 49 = .ok (.putfield 27, 3) := by decide +kernel
theorem dX3_init_52 : decode cX3_init 52 = .ok (.aload_n 0, 1) := by decide +kernel
theorem dX3_init_53 : decode cX3_init 53 = .ok (.bipush 120, 2) := by decide +kernel
theorem dX3_init_55 : decode cX3_init 55 = .ok (.newarray .int, 2) := by decide +kernel
theorem dX3_init_57 : decode cX3_init 57 = .ok (.putfield 30, 3) := by decide +kernel
theorem dX3_init_60 : decode cX3_init 60 = .ok (.aload_n 0, 1) := by decide +kernel
theorem dX3_init_61 : decode cX3_init 61 = .ok (.bipush 120, 2) := by decide +kernel
theorem dX3_init_63 : decode cX3_init 63 = .ok (.newarray .int, 2) := by decide +kernel
theorem dX3_init_65 : decode cX3_init 65 = .ok (.putfield 33, 3) := by decide +kernel
theorem dX3_init_68 : decode cX3_init 68 = .ok (.aload_n 0, 1) := by decide +kernel
theorem dX3_init_69 : decode cX3_init 69 = .ok (.bipush 120, 2) := by decide +kernel
theorem dX3_init_71 : decode cX3_init 71 = .ok (.newarray .int, 2) := by decide +kernel
theorem dX3_init_73 : decode cX3_init 73 = .ok (.putfield 36, 3) := by decide +kernel
theorem dX3_init_76 : decode cX3_init 76 = .ok (.return_, 1) := by decide +kernel
theorem dX3_addVariable_0 : decode cX3_addVariable 0 = .ok (.aload_n 0, 1) := by decide +kernel
theorem dX3_addVariable_1 : decode cX3_addVariable 1 = .ok (.getfield 39, 3) := by decide +kernel
theorem dX3_addVariable_4 : decode cX3_addVariable 4 = .ok (.istore_n 3, 1) := by decide +kernel
theorem dX3_addVariable_5 : decode cX3_addVariable 5 = .ok (.aload_n 0, 1) := by decide +kernel
theorem dX3_addVariable_6 : decode cX3_addVariable 6 = .ok (.getfield 9, 3) := by decide +kernel
theorem dX3_addVariable_9 : decode cX3_addVariable 9 = .ok (.iload_n 3, 1) := by decide +kernel
theorem dX3_addVariable_10 : decode cX3_addVariable 10 = .ok (.iload_n 1, 1) := by decide +kernel
theorem dX3_addVariable_11 : decode cX3_addVariable 11 = .ok (.iastore, 1) := by decide +kernel
theorem dX3_addVariable_12 : decode cX3_addVariable 12 = .ok (.aload_n 0, 1) := by decide +kernel
theorem dX3_addVariable_13 : decode cX3_addVariable 13 = .ok (.dup, 1) := by decide +kernel
theorem dX3_addVariable_14 : decode cX3_addVariable 14 = .ok (.getfield 39, 3) := by decide +kernel
theorem dX3_addVariable_17 : decode cX3_addVariable 17 = .ok (.iconst 1, 1) := by decide +kernel
theorem dX3_addVariable_18 : decode cX3_addVariable 18 = .ok (.iadd, 1) := by decide +kernel
theorem dX3_addVariable_19 : decode cX3_addVariable 19 = .ok (.putfield 39, 3) := by decide +kernel
theorem dX3_addVariable_22 : decode cX3_addVariable 22 = .ok (.aload_n 0, 1) := by decide +kernel
theorem dX3_addVariable_23 : decode cX3_addVariable 23 = .ok (.iload_n 3, 1) := by decide +kernel
theorem dX3_addVariable_24 : decode cX3_addVariable 24 = .ok (.iconst (-1), 1) := by decide +kernel
theorem dX3_addVariable_25 : decode cX3_addVariable 25 = .ok (.invokevirtual 43, 3) := by decide +kernel
theorem dX3_addVariable_28 : decode cX3_addVariable 28 = .ok (.lstore 4, 2) := by decide +kernel
theorem dX3_addVariable_30 : decode cX3_addVariable 30 = .ok (.iload_n 2, 1) := by decide +kernel
theorem dX3_addVariable_31 : decode cX3_addVariable 31 = .ok (.ifCond .eq 17, 3) := by decide +kernel
theorem dX3_addVariable_34 : decode cX3_addVariable 34 = .ok (.aload_n 0, 1) := by decide +kernel
theorem dX3_addVariable_35 : decode cX3_addVariable 35 = .ok (.dup, 1) := by decide +kernel
theorem dX3_addVariable_36 : decode cX3_addVariable 36 = .ok (.getfield 47, 3) := by decide +kernel
theorem dX3_addVariable_39 : decode cX3_addVariable 39 = .ok (.lload 4, 2) := by decide +kernel
theorem dX3_addVariable_41 : decode cX3_addVariable 41 = .ok (.lor, 1) := by decide +kernel
theorem dX3_addVariable_42 : decode cX3_addVariable 42 = .ok (.putfield 47, 3) := by decide +kernel
theorem dX3_addVariable_45 : decode cX3_addVariable 45 = .ok (.goto 14, 3) := by decide +kernel
theorem dX3_addVariable_48 : decode cX3_addVariable 48 = .ok (.aload_n 0, 1) := by decide +kernel
theorem dX3_addVariable_49 : decode cX3_addVariable 49 = .ok (.dup, 1) := by decide +kernel
theorem dX3_addVariable_50 : decode cX3_addVariable 50 = .ok (.getfield 51, 3) := by decide +kernel
theorem dX3_addVariable_53 : decode cX3_addVariable 53 = .ok (.lload 4, 2) := by decide +kernel
theorem dX3_addVariable_55 : decode cX3_addVariable 55 = .ok (.lor, 1) := by decide +kernel
theorem dX3_addVariable_56 : decode cX3_addVariable 56 = .ok (.putfield 51, 3) := by decide +kernel
theorem dX3_addVariable_59 : decode cX3_addVariable 59 = .ok (.iload_n 3, 1) := by decide +kernel
theorem dX3_addVariable_60 : decode cX3_addVariable 60 = .ok (.ireturn, 1) := by decide +kernel
theorem dX3_addStatement_0 : decode cX3_addStatement 0 = .ok (.aload_n 0, 1) := by decide +kernel
theorem dX3_addStatement_1 : decode cX3_addStatement 1 = .ok (.getfield 54, 3) := by decide +kernel
theorem dX3_addStatement_4 : decode cX3_addStatement 4 = .ok (.istore_n 2, 1) := by decide +kernel
theorem dX3_addStatement_5 : decode cX3_addStatement 5 = .ok (.aload_n 0, 1) := by decide +kernel
theorem dX3_addStatement_6 : decode cX3_addStatement 6 = .ok (.getfield 15, 3) := by decide +kernel
theorem dX3_addStatement_9 : decode cX3_addStatement 9 = .ok (.iload_n 2, 1) := by decide +kernel
theorem dX3_addStatement_10 : decode cX3_addStatement 10 = .ok (.iload_n 1, 1) := by decide +kernel
theorem dX3_addStatement_11 : decode cX3_addStatement 11 = .ok (.iastore, 1) := by decide +kernel
theorem dX3_addStatement_12 : decode cX3_addStatement 12 = .ok (.aload_n 0, 1) := by decide +kernel
theorem dX3_addStatement_13 : decode cX3_addStatement 13 = .ok (.getfield 18, 3) := by decide +kernel
theorem dX3_addStatement_16 : decode cX3_addStatement 16 = .ok (.iload_n 2, 1) := by decide +kernel
theorem dX3_addStatement_17 : decode cX3_addStatement 17 = .ok (.iconst (-1), 1) := by decide +kernel
theorem dX3_addStatement_18 : decode cX3_addStatement 18 = .ok (.iastore, 1) := by decide +kernel
theorem dX3_addStatement_19 : decode cX3_addStatement 19 = .ok (.aload_n 0, 1) := by decide +kernel
theorem dX3_addStatement_20 : decode cX3_addStatement 20 = .ok (.getfield 21, 3) := by decide +kernel
theorem dX3_addStatement_23 : decode cX3_addStatement 23 = .ok (.iload_n 2, 1) := by decide +kernel
theorem dX3_addStatement_24 : decode cX3_addStatement 24 = .ok (.iconst (-1), 1) := by decide +kernel
theorem dX3_addStatement_25 : decode cX3_addStatement 25 = .ok (.iastore, 1) := by decide +kernel
theorem dX3_addStatement_26 : decode cX3_addStatement 26 = .ok (.aload_n 0, 1) := by decide +kernel
theorem dX3_addStatement_27 : decode cX3_addStatement 27 = .ok (.getfield 24, 3) := by decide +kernel
theorem dX3_addStatement_30 : decode cX3_addStatement 30 = .ok (.iload_n 2, 1) := by decide +kernel
theorem dX3_addStatement_31 : decode cX3_addStatement 31 = .ok (.iconst 0, 1) := by decide +kernel
theorem dX3_addStatement_32 : decode cX3_addStatement 32 = .ok (.iastore, 1) := by decide +kernel
theorem dX3_addStatement_33 : decode cX3_addStatement 33 = .ok (.aload_n 0, 1) := by decide +kernel
theorem dX3_addStatement_34 : decode cX3_addStatement 34 = .ok (.getfield 27, 3) := by decide +kernel
theorem dX3_addStatement_37 : decode cX3_addStatement 37 = .ok (.iload_n 2, 1) := by decide +kernel
theorem dX3_addStatement_38 : decode cX3_addStatement 38 = .ok (.iconst 0, 1) := by decide +kernel
theorem dX3_addStatement_39 : decode cX3_addStatement 39 = .ok (.iastore, 1) := by decide +kernel
theorem dX3_addStatement_40 : decode cX3_addStatement 40 = .ok (.aload_n 0, 1) := by decide +kernel
theorem dX3_addStatement_41 : decode cX3_addStatement 41 = .ok (.dup, 1) := by decide +kernel
theorem dX3_addStatement_42 : decode cX3_addStatement 42 = .ok (.getfield 54, 3) := by decide +kernel
theorem dX3_addStatement_45 : decode cX3_addStatement 45 = .ok (.iconst 1, 1) := by decide +kernel
theorem dX3_addStatement_46 : decode cX3_addStatement 46 = .ok (.iadd, 1) := by decide +kernel
theorem dX3_addStatement_47 : decode cX3_addStatement 47 = .ok (.putfield 54, 3) := by decide +kernel
theorem dX3_addStatement_50 : decode cX3_addStatement 50 = .ok (.iload_n 2, 1) := by decide +kernel
theorem dX3_addStatement_51 : decode cX3_addStatement 51 = .ok (.ireturn, 1) := by decide +kernel
theorem dX3_addAccess_0 : decode cX3_addAccess 0 = .ok (.iload_n 1, 1) := by decide +kernel
theorem dX3_addAccess_1 : decode cX3_addAccess 1 = .ok (.iconst 3, 1) := by decide +kernel
theorem dX3_addAccess_2 : decode cX3_addAccess 2 = .ok (.imul, 1) := by decide +kernel
theorem dX3_addAccess_3 : decode cX3_addAccess 3 = .ok (.aload_n 0, 1) := by decide +kernel
theorem dX3_addAccess_4 : decode cX3_addAccess 4 = .ok (.getfield 27, 3) := by decide +kernel
theorem dX3_addAccess_7 : decode cX3_addAccess 7 = .ok (.iload_n 1, 1) := by decide +kernel
theorem dX3_addAccess_8 : decode cX3_addAccess 8 = .ok (.iaload, 1) := by decide +kernel
theorem dX3_addAccess_9 : decode cX3_addAccess 9 = .ok (.iadd, 1) := by decide +kernel
theorem dX3_addAccess_10 : decode cX3_addAccess 10 = .ok (.istore 5, 2) := by decide +kernel
theorem dX3_addAccess_12 : decode cX3_addAccess 12 = .ok (.aload_n 0, 1) := by decide +kernel
theorem dX3_addAccess_13 : decode cX3_addAccess 13 = .ok (.getfield 30, 3) := by decide +kernel
theorem dX3_addAccess_16 : decode cX3_addAccess 16 = .ok (.iload 5, 2) := by decide +kernel
theorem dX3_addAccess_18 : decode cX3_addAccess 18 = .ok (.iload_n 2, 1) := by decide +kernel
theorem dX3_addAccess_19 : decode cX3_addAccess 19 = .ok (.iastore, 1) := by decide +kernel
theorem dX3_addAccess_20 : decode cX3_addAccess 20 = .ok (.aload_n 0, 1) := by decide +kernel
theorem dX3_addAccess_21 : decode cX3_addAccess 21 = .ok (.getfield 33, 3) := by decide +kernel
theorem dX3_addAccess_24 : decode cX3_addAccess 24 = .ok (.iload 5, 2) := by decide +kernel
theorem dX3_addAccess_26 : decode cX3_addAccess 26 = .ok (.iload_n 3, 1) := by decide +kernel
theorem dX3_addAccess_27 : decode cX3_addAccess 27 = .ok (.iastore, 1) := by decide +kernel
theorem dX3_addAccess_28 : decode cX3_addAccess 28 = .ok (.aload_n 0, 1) := by decide +kernel
theorem dX3_addAccess_29 : decode cX3_addAccess 29 = .ok (.getfield 36, 3) := by decide +kernel
theorem dX3_addAccess_32 : decode cX3_addAccess 32 = .ok (.iload 5, 2) := by decide +kernel
theorem dX3_addAccess_34 : decode cX3_addAccess 34 = .ok (.iload 4, 2) := by decide +kernel
theorem dX3_addAccess_36 : decode cX3_addAccess 36 = .ok (.iastore, 1) := by decide +kernel
theorem dX3_addAccess_37 : decode cX3_addAccess 37 = .ok (.aload_n 0, 1) := by decide +kernel
theorem dX3_addAccess_38 : decode cX3_addAccess 38 = .ok (.getfield 27, 3) := by decide +kernel
theorem dX3_addAccess_41 : decode cX3_addAccess 41 = .ok (.iload_n 1, 1) := by decide +kernel
theorem dX3_addAccess_42 : decode cX3_addAccess 42 = .ok (.dup2, 1) := by decide +kernel
theorem dX3_addAccess_43 : decode cX3_addAccess 43 = .ok (.iaload, 1) := by decide +kernel
theorem dX3_addAccess_44 : decode cX3_addAccess 44 = .ok (.iconst 1, 1) := by decide +kernel
theorem dX3_addAccess_45 : decode cX3_addAccess 45 = .ok (.iadd, 1) := by decide +kernel
theorem dX3_addAccess_46 : decode cX3_addAccess 46 = .ok (.iastore, 1) := by decide +kernel
theorem dX3_addAccess_47 : decode cX3_addAccess 47 = .ok (.return_, 1) := by decide +kernel
theorem dX3_addSetting_0 : decode cX3_addSetting 0 = .ok (.aload_n 0, 1) := by decide +kernel
theorem dX3_addSetting_1 : decode cX3_addSetting 1 = .ok (.getfield 21, 3) := by decide +kernel
theorem dX3_addSetting_4 : decode cX3_addSetting 4 = .ok (.iload_n 1, 1) := by decide +kernel
theorem dX3_addSetting_5 : decode cX3_addSetting 5 = .ok (.iload_n 2, 1) := by decide +kernel
theorem dX3_addSetting_6 : decode cX3_addSetting 6 = .ok (.iastore, 1) := by decide +kernel
theorem dX3_addSetting_7 : decode cX3_addSetting 7 = .ok (.aload_n 0, 1) := by decide +kernel
theorem dX3_addSetting_8 : decode cX3_addSetting 8 = .ok (.getfield 24, 3) := by decide +kernel
theorem dX3_addSetting_11 : decode cX3_addSetting 11 = .ok (.iload_n 1, 1) := by decide +kernel
theorem dX3_addSetting_12 : decode cX3_addSetting 12 = .ok (.iload_n 3, 1) := by decide +kernel
theorem dX3_addSetting_13 : decode cX3_addSetting 13 = .ok (.iastore, 1) := by decide +kernel
theorem dX3_addSetting_14 : decode cX3_addSetting 14 = .ok (.aload_n 0, 1) := by decide +kernel
theorem dX3_addSetting_15 : decode cX3_addSetting 15 = .ok (.iload_n 1, 1) := by decide +kernel
theorem dX3_addSetting_16 : decode cX3_addSetting 16 = .ok (.iconst 1, 1) := by decide +kernel
theorem dX3_addSetting_17 : decode cX3_addSetting 17 = .ok (.iload_n 2, 1) := by decide +kernel
theorem dX3_addSetting_18 : decode cX3_addSetting 18 = .ok (.iconst (-1), 1) := by decide +kernel
theorem dX3_addSetting_19 : decode cX3_addSetting 19 = .ok (.invokevirtual 57, 3) := by decide +kernel
theorem dX3_addSetting_22 : decode cX3_addSetting 22 = .ok (.return_, 1) := by decide +kernel
theorem dX3_isLoan_0 : decode cX3_isLoan 0 = .ok (.aload_n 0, 1) := by decide +kernel
theorem dX3_isLoan_1 : decode cX3_isLoan 1 = .ok (.getfield 9, 3) := by decide +kernel
theorem dX3_isLoan_4 : decode cX3_isLoan 4 = .ok (.iload_n 1, 1) := by decide +kernel
theorem dX3_isLoan_5 : decode cX3_isLoan 5 = .ok (.iaload, 1) := by decide +kernel
theorem dX3_isLoan_6 : decode cX3_isLoan 6 = .ok (.iconst 2, 1) := by decide +kernel
theorem dX3_isLoan_7 : decode cX3_isLoan 7 = .ok (.if_icmp .eq 13, 3) := by decide +kernel
theorem dX3_isLoan_10 : decode cX3_isLoan 10 = .ok (.aload_n 0, 1) := by decide +kernel
theorem dX3_isLoan_11 : decode cX3_isLoan 11 = .ok (.getfield 9, 3) := by decide +kernel
theorem dX3_isLoan_14 : decode cX3_isLoan 14 = .ok (.iload_n 1, 1) := by decide +kernel
theorem dX3_isLoan_15 : decode cX3_isLoan 15 = .ok (.iaload, 1) := by decide +kernel
theorem dX3_isLoan_16 : decode cX3_isLoan 16 = .ok (.iconst 3, 1) := by decide +kernel
theorem dX3_isLoan_17 : decode cX3_isLoan 17 = .ok (.if_icmp .ne 7, 3) := by decide +kernel
theorem dX3_isLoan_20 : decode cX3_isLoan 20 = .ok (.iconst 1, 1) := by decide +kernel
theorem dX3_isLoan_21 : decode cX3_isLoan 21 = .ok (.goto 4, 3) := by decide +kernel
theorem dX3_isLoan_24 : decode cX3_isLoan 24 = .ok (.iconst 0, 1) := by decide +kernel
theorem dX3_isLoan_25 : decode cX3_isLoan 25 = .ok (.ireturn, 1) := by decide +kernel
theorem dX3_isField_0 : decode cX3_isField 0 = .ok (.aload_n 0, 1) := by decide +kernel
theorem dX3_isField_1 : decode cX3_isField 1 = .ok (.getfield 9, 3) := by decide +kernel
theorem dX3_isField_4 : decode cX3_isField 4 = .ok (.iload_n 1, 1) := by decide +kernel
theorem dX3_isField_5 : decode cX3_isField 5 = .ok (.iaload, 1) := by decide +kernel
theorem dX3_isField_6 : decode cX3_isField 6 = .ok (.iconst 1, 1) := by decide +kernel
theorem dX3_isField_7 : decode cX3_isField 7 = .ok (.if_icmp .ne 16, 3) := by decide +kernel
theorem dX3_isField_10 : decode cX3_isField 10 = .ok (.iload_n 2, 1) := by decide +kernel
theorem dX3_isField_11 : decode cX3_isField 11 = .ok (.ifCond .lt 12, 3) := by decide +kernel
theorem dX3_isField_14 : decode cX3_isField 14 = .ok (.iload_n 2, 1) := by decide +kernel
theorem dX3_isField_15 : decode cX3_isField 15 = .ok (.iconst 3, 1) := by decide +kernel
theorem dX3_isField_16 : decode cX3_isField 16 = .ok (.if_icmp .ge 7, 3) := by decide +kernel
theorem dX3_isField_19 : decode cX3_isField 19 = .ok (.iconst 1, 1) := by decide +kernel
theorem dX3_isField_20 : decode cX3_isField 20 = .ok (.goto 4, 3) := by decide +kernel
theorem dX3_isField_23 : decode cX3_isField 23 = .ok (.iconst 0, 1) := by decide +kernel
theorem dX3_isField_24 : decode cX3_isField 24 = .ok (.ireturn, 1) := by decide +kernel
theorem dX3_isBranch_0 : decode cX3_isBranch 0 = .ok (.aload_n 0, 1) := by decide +kernel
theorem dX3_isBranch_1 : decode cX3_isBranch 1 = .ok (.getfield 15, 3) := by decide +kernel
theorem dX3_isBranch_4 : decode cX3_isBranch 4 = .ok (.iload_n 1, 1) := by decide +kernel
theorem dX3_isBranch_5 : decode cX3_isBranch 5 = .ok (.iaload, 1) := by decide +kernel
theorem dX3_isBranch_6 : decode cX3_isBranch 6 = .ok (.bipush 7, 2) := by decide +kernel
theorem dX3_isBranch_8 : decode cX3_isBranch 8 = .ok (.if_icmp .eq 14, 3) := by decide +kernel
theorem dX3_isBranch_11 : decode cX3_isBranch 11 = .ok (.aload_n 0, 1) := by decide +kernel
theorem dX3_isBranch_12 : decode cX3_isBranch 12 = .ok (.getfield 15, 3) := by decide +kernel
theorem dX3_isBranch_15 : decode cX3_isBranch 15 = .ok (.iload_n 1, 1) := by decide +kernel
theorem dX3_isBranch_16 : decode cX3_isBranch 16 = .ok (.iaload, 1) := by decide +kernel
theorem dX3_isBranch_17 : decode cX3_isBranch 17 = .ok (.bipush 8, 2) := by decide +kernel
theorem dX3_isBranch_19 : decode cX3_isBranch 19 = .ok (.if_icmp .ne 7, 3) := by decide +kernel
theorem dX3_isBranch_22 : decode cX3_isBranch 22 = .ok (.iconst 1, 1) := by decide +kernel
theorem dX3_isBranch_23 : decode cX3_isBranch 23 = .ok (.goto 4, 3) := by decide +kernel
theorem dX3_isBranch_26 : decode cX3_isBranch 26 = .ok (.iconst 0, 1) := by decide +kernel
theorem dX3_isBranch_27 : decode cX3_isBranch 27 = .ok (.ireturn, 1) := by decide +kernel
theorem dX3_isMadeLoan_0 : decode cX3_isMadeLoan 0 = .ok (.iload_n 1, 1) := by decide +kernel
theorem dX3_isMadeLoan_1 : decode cX3_isMadeLoan 1 = .ok (.ifCond .lt 35, 3) := by decide +kernel
theorem dX3_isMadeLoan_4 : decode cX3_isMadeLoan 4 = .ok (.iload_n 1, 1) := by decide +kernel
theorem dX3_isMadeLoan_5 : decode cX3_isMadeLoan 5 = .ok (.aload_n 0, 1) := by decide +kernel
theorem dX3_isMadeLoan_6 : decode cX3_isMadeLoan 6 = .ok (.getfield 54, 3) := by decide +kernel
theorem dX3_isMadeLoan_9 : decode cX3_isMadeLoan 9 = .ok (.if_icmp .ge 27, 3) := by decide +kernel
theorem dX3_isMadeLoan_12 : decode cX3_isMadeLoan 12 = .ok (.aload_n 0, 1) := by decide +kernel
theorem dX3_isMadeLoan_13 : decode cX3_isMadeLoan 13 = .ok (.getfield 15, 3) := by decide +kernel
theorem dX3_isMadeLoan_16 : decode cX3_isMadeLoan 16 = .ok (.iload_n 1, 1) := by decide +kernel
theorem dX3_isMadeLoan_17 : decode cX3_isMadeLoan 17 = .ok (.iaload, 1) := by decide +kernel
theorem dX3_isMadeLoan_18 : decode cX3_isMadeLoan 18 = .ok (.iconst 2, 1) := by decide +kernel
theorem dX3_isMadeLoan_19 : decode cX3_isMadeLoan 19 = .ok (.if_icmp .eq 13, 3) := by decide +kernel
theorem dX3_isMadeLoan_22 : decode cX3_isMadeLoan 22 = .ok (.aload_n 0, 1) := by decide +kernel
theorem dX3_isMadeLoan_23 : decode cX3_isMadeLoan 23 = .ok (.getfield 15, 3) := by decide +kernel
theorem dX3_isMadeLoan_26 : decode cX3_isMadeLoan 26 = .ok (.iload_n 1, 1) := by decide +kernel
theorem dX3_isMadeLoan_27 : decode cX3_isMadeLoan 27 = .ok (.iaload, 1) := by decide +kernel
theorem dX3_isMadeLoan_28 : decode cX3_isMadeLoan 28 = .ok (.iconst 3, 1) := by decide +kernel
theorem dX3_isMadeLoan_29 : decode cX3_isMadeLoan 29 = .ok (.if_icmp .ne 7, 3) := by decide +kernel
theorem dX3_isMadeLoan_32 : decode cX3_isMadeLoan 32 = .ok (.iconst 1, 1) := by decide +kernel
theorem dX3_isMadeLoan_33 : decode cX3_isMadeLoan 33 = .ok (.goto 4, 3) := by decide +kernel
theorem dX3_isMadeLoan_36 : decode cX3_isMadeLoan 36 = .ok (.iconst 0, 1) := by decide +kernel
theorem dX3_isMadeLoan_37 : decode cX3_isMadeLoan 37 = .ok (.ireturn, 1) := by decide +kernel
theorem dX3_isAloneLoan_0 : decode cX3_isAloneLoan 0 = .ok (.aload_n 0, 1) := by decide +kernel
theorem dX3_isAloneLoan_1 : decode cX3_isAloneLoan 1 = .ok (.getfield 21, 3) := by decide +kernel
theorem dX3_isAloneLoan_4 : decode cX3_isAloneLoan 4 = .ok (.iload_n 1, 1) := by decide +kernel
theorem dX3_isAloneLoan_5 : decode cX3_isAloneLoan 5 = .ok (.iaload, 1) := by decide +kernel
theorem dX3_isAloneLoan_6 : decode cX3_isAloneLoan 6 = .ok (.istore_n 2, 1) := by decide +kernel
theorem dX3_isAloneLoan_7 : decode cX3_isAloneLoan 7 = .ok (.iload_n 2, 1) := by decide +kernel
theorem dX3_isAloneLoan_8 : decode cX3_isAloneLoan 8 = .ok (.iconst (-1), 1) := by decide +kernel
theorem dX3_isAloneLoan_9 : decode cX3_isAloneLoan 9 = .ok (.if_icmp .eq 17, 3) := by decide +kernel
theorem dX3_isAloneLoan_12 : decode cX3_isAloneLoan 12 = .ok (.aload_n 0, 1) := by decide +kernel
theorem dX3_isAloneLoan_13 : decode cX3_isAloneLoan 13 = .ok (.getfield 9, 3) := by decide +kernel
theorem dX3_isAloneLoan_16 : decode cX3_isAloneLoan 16 = .ok (.iload_n 2, 1) := by decide +kernel
theorem dX3_isAloneLoan_17 : decode cX3_isAloneLoan 17 = .ok (.iaload, 1) := by decide +kernel
theorem dX3_isAloneLoan_18 : decode cX3_isAloneLoan 18 = .ok (.iconst 3, 1) := by decide +kernel
theorem dX3_isAloneLoan_19 : decode cX3_isAloneLoan 19 = .ok (.if_icmp .ne 7, 3) := by decide +kernel
theorem dX3_isAloneLoan_22 : decode cX3_isAloneLoan 22 = .ok (.iconst 1, 1) := by decide +kernel
theorem dX3_isAloneLoan_23 : decode cX3_isAloneLoan 23 = .ok (.goto 4, 3) := by decide +kernel
theorem dX3_isAloneLoan_26 : decode cX3_isAloneLoan 26 = .ok (.iconst 0, 1) := by decide +kernel
theorem dX3_isAloneLoan_27 : decode cX3_isAloneLoan 27 = .ok (.ireturn, 1) := by decide +kernel
theorem dX3_takingOf_0 : decode cX3_takingOf 0 = .ok (.aload_n 0, 1) := by decide +kernel
theorem dX3_takingOf_1 : decode cX3_takingOf 1 = .ok (.getfield 9, 3) := by decide +kernel
theorem dX3_takingOf_4 : decode cX3_takingOf 4 = .ok (.iload_n 1, 1) := by decide +kernel
theorem dX3_takingOf_5 : decode cX3_takingOf 5 = .ok (.iaload, 1) := by decide +kernel
theorem dX3_takingOf_6 : decode cX3_takingOf 6 = .ok (.iconst 1, 1) := by decide +kernel
theorem dX3_takingOf_7 : decode cX3_takingOf 7 = .ok (.if_icmp .eq 13, 3) := by decide +kernel
theorem dX3_takingOf_10 : decode cX3_takingOf 10 = .ok (.aload_n 0, 1) := by decide +kernel
theorem dX3_takingOf_11 : decode cX3_takingOf 11 = .ok (.getfield 9, 3) := by decide +kernel
theorem dX3_takingOf_14 : decode cX3_takingOf 14 = .ok (.iload_n 1, 1) := by decide +kernel
theorem dX3_takingOf_15 : decode cX3_takingOf 15 = .ok (.iaload, 1) := by decide +kernel
theorem dX3_takingOf_16 : decode cX3_takingOf 16 = .ok (.iconst 3, 1) := by decide +kernel
theorem dX3_takingOf_17 : decode cX3_takingOf 17 = .ok (.if_icmp .ne 7, 3) := by decide +kernel
theorem dX3_takingOf_20 : decode cX3_takingOf 20 = .ok (.iconst 2, 1) := by decide +kernel
theorem dX3_takingOf_21 : decode cX3_takingOf 21 = .ok (.goto 4, 3) := by decide +kernel
theorem dX3_takingOf_24 : decode cX3_takingOf 24 = .ok (.iconst 0, 1) := by decide +kernel
theorem dX3_takingOf_25 : decode cX3_takingOf 25 = .ok (.ireturn, 1) := by decide +kernel
theorem dX3_lendingTo_0 : decode cX3_lendingTo 0 = .ok (.aload_n 0, 1) := by decide +kernel
theorem dX3_lendingTo_1 : decode cX3_lendingTo 1 = .ok (.getfield 9, 3) := by decide +kernel
theorem dX3_lendingTo_4 : decode cX3_lendingTo 4 = .ok (.iload_n 1, 1) := by decide +kernel
theorem dX3_lendingTo_5 : decode cX3_lendingTo 5 = .ok (.iaload, 1) := by decide +kernel
theorem dX3_lendingTo_6 : decode cX3_lendingTo 6 = .ok (.iconst 2, 1) := by decide +kernel
theorem dX3_lendingTo_7 : decode cX3_lendingTo 7 = .ok (.if_icmp .ne 7, 3) := by decide +kernel
theorem dX3_lendingTo_10 : decode cX3_lendingTo 10 = .ok (.iconst 0, 1) := by decide +kernel
theorem dX3_lendingTo_11 : decode cX3_lendingTo 11 = .ok (.goto 4, 3) := by decide +kernel
theorem dX3_lendingTo_14 : decode cX3_lendingTo 14 = .ok (.iconst 4, 1) := by decide +kernel
theorem dX3_lendingTo_15 : decode cX3_lendingTo 15 = .ok (.ireturn, 1) := by decide +kernel
theorem dX3_cellsOf_0 : decode cX3_cellsOf 0 = .ok (.iconst 3, 1) := by decide +kernel
theorem dX3_cellsOf_1 : decode cX3_cellsOf 1 = .ok (.iload_n 1, 1) := by decide +kernel
theorem dX3_cellsOf_2 : decode cX3_cellsOf 2 = .ok (.imul, 1) := by decide +kernel
theorem dX3_cellsOf_3 : decode cX3_cellsOf 3 = .ok (.istore_n 3, 1) := by decide +kernel
theorem dX3_cellsOf_4 : decode cX3_cellsOf 4 = .ok (.aload_n 0, 1) := by decide +kernel
theorem dX3_cellsOf_5 : decode cX3_cellsOf 5 = .ok (.getfield 9, 3) := by decide +kernel
theorem dX3_cellsOf_8 : decode cX3_cellsOf 8 = .ok (.iload_n 1, 1) := by decide +kernel
theorem dX3_cellsOf_9 : decode cX3_cellsOf 9 = .ok (.iaload, 1) := by decide +kernel
theorem dX3_cellsOf_10 : decode cX3_cellsOf 10 = .ok (.iconst 1, 1) := by decide +kernel
theorem dX3_cellsOf_11 : decode cX3_cellsOf 11 = .ok (.if_icmp .eq 7, 3) := by decide +kernel
theorem dX3_cellsOf_14 : decode cX3_cellsOf 14 = .ok (.lconst 1, 1) := by decide +kernel
theorem dX3_cellsOf_15 : decode cX3_cellsOf 15 = .ok (.iload_n 3, 1) := by decide +kernel
theorem dX3_cellsOf_16 : decode cX3_cellsOf 16 = .ok (.lshl, 1) := by decide +kernel
theorem dX3_cellsOf_17 : decode cX3_cellsOf 17 = .ok (.lreturn, 1) := by decide +kernel
theorem dX3_cellsOf_18 : decode cX3_cellsOf 18 = .ok (.iload_n 2, 1) := by decide +kernel
theorem dX3_cellsOf_19 : decode cX3_cellsOf 19 = .ok (.iconst (-1), 1) := by decide +kernel
theorem dX3_cellsOf_20 : decode cX3_cellsOf 20 = .ok (.if_icmp .ne 11, 3) := by decide +kernel
theorem dX3_cellsOf_23 : decode cX3_cellsOf 23 = .ok (.ldc2_w 61, 3) := by decide +kernel
theorem dX3_cellsOf_26 : decode cX3_cellsOf 26 = .ok (.iload_n 3, 1) := by decide +kernel
theorem dX3_cellsOf_27 : decode cX3_cellsOf 27 = .ok (.lshl, 1) := by decide +kernel
theorem dX3_cellsOf_28 : decode cX3_cellsOf 28 = .ok (.goto 8, 3) := by decide +kernel
theorem dX3_cellsOf_31 : decode cX3_cellsOf 31 = .ok (.lconst 1, 1) := by decide +kernel
theorem dX3_cellsOf_32 : decode cX3_cellsOf 32 = .ok (.iload_n 3, 1) := by decide +kernel
theorem dX3_cellsOf_33 : decode cX3_cellsOf 33 = .ok (.iload_n 2, 1) := by decide +kernel
theorem dX3_cellsOf_34 : decode cX3_cellsOf 34 = .ok (.iadd, 1) := by decide +kernel
theorem dX3_cellsOf_35 : decode cX3_cellsOf 35 = .ok (.lshl, 1) := by decide +kernel
theorem dX3_cellsOf_36 : decode cX3_cellsOf 36 = .ok (.lreturn, 1) := by decide +kernel
theorem dX3_cellsAt_0 : decode cX3_cellsAt 0 = .ok (.aload_n 0, 1) := by decide +kernel
theorem dX3_cellsAt_1 : decode cX3_cellsAt 1 = .ok (.aload_n 0, 1) := by decide +kernel
theorem dX3_cellsAt_2 : decode cX3_cellsAt 2 = .ok (.getfield 33, 3) := by decide +kernel
theorem dX3_cellsAt_5 : decode cX3_cellsAt 5 = .ok (.iload_n 1, 1) := by decide +kernel
theorem dX3_cellsAt_6 : decode cX3_cellsAt 6 = .ok (.iaload, 1) := by decide +kernel
theorem dX3_cellsAt_7 : decode cX3_cellsAt 7 = .ok (.aload_n 0, 1) := by decide +kernel
theorem dX3_cellsAt_8 : decode cX3_cellsAt 8 = .ok (.getfield 36, 3) := by decide +kernel
theorem dX3_cellsAt_11 : decode cX3_cellsAt 11 = .ok (.iload_n 1, 1) := by decide +kernel
theorem dX3_cellsAt_12 : decode cX3_cellsAt 12 = .ok (.iaload, 1) := by decide +kernel
theorem dX3_cellsAt_13 : decode cX3_cellsAt 13 = .ok (.invokevirtual 43, 3) := by decide +kernel
theorem dX3_cellsAt_16 : decode cX3_cellsAt 16 = .ok (.lreturn, 1) := by decide +kernel
theorem dX3_isUse_0 : decode cX3_isUse 0 = .ok (.iload_n 1, 1) := by decide +kernel
theorem dX3_isUse_1 : decode cX3_isUse 1 = .ok (.ifCond .eq 23, 3) := by decide +kernel
theorem dX3_isUse_4 : decode cX3_isUse 4 = .ok (.iload_n 1, 1) := by decide +kernel
theorem dX3_isUse_5 : decode cX3_isUse 5 = .ok (.iconst 2, 1) := by decide +kernel
theorem dX3_isUse_6 : decode cX3_isUse 6 = .ok (.if_icmp .eq 18, 3) := by decide +kernel
theorem dX3_isUse_9 : decode cX3_isUse 9 = .ok (.iload_n 1, 1) := by decide +kernel
theorem dX3_isUse_10 : decode cX3_isUse 10 = .ok (.iconst 4, 1) := by decide +kernel
theorem dX3_isUse_11 : decode cX3_isUse 11 = .ok (.if_icmp .eq 13, 3) := by decide +kernel
theorem dX3_isUse_14 : decode cX3_isUse 14 = .ok (.iload_n 1, 1) := by decide +kernel
theorem dX3_isUse_15 : decode cX3_isUse 15 = .ok (.iconst 1, 1) := by decide +kernel
theorem dX3_isUse_16 : decode cX3_isUse 16 = .ok (.if_icmp .ne 12, 3) := by decide +kernel
theorem dX3_isUse_19 : decode cX3_isUse 19 = .ok (.iload_n 2, 1) := by decide +kernel
theorem dX3_isUse_20 : decode cX3_isUse 20 = .ok (.iconst 3, 1) := by decide +kernel
theorem dX3_isUse_21 : decode cX3_isUse 21 = .ok (.if_icmp .ne 7, 3) := by decide +kernel
theorem dX3_isUse_24 : decode cX3_isUse 24 = .ok (.iconst 1, 1) := by decide +kernel
theorem dX3_isUse_25 : decode cX3_isUse 25 = .ok (.goto 4, 3) := by decide +kernel
theorem dX3_isUse_28 : decode cX3_isUse 28 = .ok (.iconst 0, 1) := by decide +kernel
theorem dX3_isUse_29 : decode cX3_isUse 29 = .ok (.ireturn, 1) := by decide +kernel
theorem dX3_meets_0 : decode cX3_meets 0 = .ok (.iload_n 3, 1) := by decide +kernel
theorem dX3_meets_1 : decode cX3_meets 1 = .ok (.iconst 3, 1) := by decide +kernel
theorem dX3_meets_2 : decode cX3_meets 2 = .ok (.imul, 1) := by decide +kernel
theorem dX3_meets_3 : decode cX3_meets 3 = .ok (.istore 4, 2) := by decide +kernel
theorem dX3_meets_5 : decode cX3_meets 5 = .ok (.aload_n 0, 1) := by decide +kernel
theorem dX3_meets_6 : decode cX3_meets 6 = .ok (.getfield 33, 3) := by decide +kernel
theorem dX3_meets_9 : decode cX3_meets 9 = .ok (.iload_n 2, 1) := by decide +kernel
theorem dX3_meets_10 : decode cX3_meets 10 = .ok (.iaload, 1) := by decide +kernel
theorem dX3_meets_11 : decode cX3_meets 11 = .ok (.aload_n 0, 1) := by decide +kernel
theorem dX3_meets_12 : decode cX3_meets 12 = .ok (.getfield 33, 3) := by decide +kernel
theorem dX3_meets_15 : decode cX3_meets 15 = .ok (.iload 4, 2) := by decide +kernel
theorem dX3_meets_17 : decode cX3_meets 17 = .ok (.iaload, 1) := by decide +kernel
theorem dX3_meets_18 : decode cX3_meets 18 = .ok (.if_icmp .eq 5, 3) := by decide +kernel
theorem dX3_meets_21 : decode cX3_meets 21 = .ok (.iconst 0, 1) := by decide +kernel
theorem dX3_meets_22 : decode cX3_meets 22 = .ok (.ireturn, 1) := by decide +kernel
theorem dX3_meets_23 : decode cX3_meets 23 = .ok (.aload_n 0, 1) := by decide +kernel
theorem dX3_meets_24 : decode cX3_meets 24 = .ok (.getfield 36, 3) := by decide +kernel
theorem dX3_meets_27 : decode cX3_meets 27 = .ok (.iload_n 2, 1) := by decide +kernel
theorem dX3_meets_28 : decode cX3_meets 28 = .ok (.iaload, 1) := by decide +kernel
theorem dX3_meets_29 : decode cX3_meets 29 = .ok (.istore 5, 2) := by decide +kernel
theorem dX3_meets_31 : decode cX3_meets 31 = .ok (.aload_n 0, 1) := by decide +kernel
theorem dX3_meets_32 : decode cX3_meets 32 = .ok (.getfield 36, 3) := by decide +kernel
theorem dX3_meets_35 : decode cX3_meets 35 = .ok (.iload 4, 2) := by decide +kernel
theorem dX3_meets_37 : decode cX3_meets 37 = .ok (.iaload, 1) := by decide +kernel
theorem dX3_meets_38 : decode cX3_meets 38 = .ok (.istore 6, 2) := by decide +kernel
theorem dX3_meets_40 : decode cX3_meets 40 = .ok (.iload 5, 2) := by decide +kernel
theorem dX3_meets_42 : decode cX3_meets 42 = .ok (.iload 6, 2) := by decide +kernel
theorem dX3_meets_44 : decode cX3_meets 44 = .ok (.if_icmp .ne 5, 3) := by decide +kernel
theorem dX3_meets_47 : decode cX3_meets 47 = .ok (.iconst 1, 1) := by decide +kernel
theorem dX3_meets_48 : decode cX3_meets 48 = .ok (.ireturn, 1) := by decide +kernel
theorem dX3_meets_49 : decode cX3_meets 49 = .ok (.iload 6, 2) := by decide +kernel
theorem dX3_meets_51 : decode cX3_meets 51 = .ok (.iconst 3, 1) := by decide +kernel
theorem dX3_meets_52 : decode cX3_meets 52 = .ok (.if_icmp .ne 20, 3) := by decide +kernel
theorem dX3_meets_55 : decode cX3_meets 55 = .ok (.iload_n 1, 1) := by decide +kernel
theorem dX3_meets_56 : decode cX3_meets 56 = .ok (.iconst 2, 1) := by decide +kernel
theorem dX3_meets_57 : decode cX3_meets 57 = .ok (.if_icmp .ne 13, 3) := by decide +kernel
theorem dX3_meets_60 : decode cX3_meets 60 = .ok (.iload 5, 2) := by decide +kernel
theorem dX3_meets_62 : decode cX3_meets 62 = .ok (.iconst (-1), 1) := by decide +kernel
theorem dX3_meets_63 : decode cX3_meets 63 = .ok (.if_icmp .ne 7, 3) := by decide +kernel
theorem dX3_meets_66 : decode cX3_meets 66 = .ok (.iconst 1, 1) := by decide +kernel
theorem dX3_meets_67 : decode cX3_meets 67 = .ok (.goto 4, 3) := by decide +kernel
theorem dX3_meets_70 : decode cX3_meets 70 = .ok (.iconst 0, 1) := by decide +kernel
theorem dX3_meets_71 : decode cX3_meets 71 = .ok (.ireturn, 1) := by decide +kernel
theorem dX3_meets_72 : decode cX3_meets 72 = .ok (.iload 5, 2) := by decide +kernel
theorem dX3_meets_74 : decode cX3_meets 74 = .ok (.iconst 3, 1) := by decide +kernel
theorem dX3_meets_75 : decode cX3_meets 75 = .ok (.if_icmp .eq 19, 3) := by decide +kernel
theorem dX3_meets_78 : decode cX3_meets 78 = .ok (.iload 5, 2) := by decide +kernel
theorem dX3_meets_80 : decode cX3_meets 80 = .ok (.iconst (-1), 1) := by decide +kernel
theorem dX3_meets_81 : decode cX3_meets 81 = .ok (.if_icmp .eq 9, 3) := by decide +kernel
theorem dX3_meets_84 : decode cX3_meets 84 = .ok (.iload 6, 2) := by decide +kernel
theorem dX3_meets_86 : decode cX3_meets 86 = .ok (.iconst (-1), 1) := by decide +kernel
theorem dX3_meets_87 : decode cX3_meets 87 = .ok (.if_icmp .ne 7, 3) := by decide +kernel
theorem dX3_meets_90 : decode cX3_meets 90 = .ok (.iconst 1, 1) := by decide +kernel
theorem dX3_meets_91 : decode cX3_meets 91 = .ok (.goto 4, 3) := by decide +kernel
theorem dX3_meets_94 : decode cX3_meets 94 = .ok (.iconst 0, 1) := by decide +kernel
theorem dX3_meets_95 : decode cX3_meets 95 = .ok (.ireturn, 1) := by decide +kernel
theorem dX4_init_0 : decode cX4_init 0 = .ok (.aload_n 0, 1) := by decide +kernel
theorem dX4_init_1 : decode cX4_init 1 = .ok (.invokespecial 3, 3) := by decide +kernel
theorem dX4_init_4 : decode cX4_init 4 = .ok (.aload_n 0, 1) := by decide +kernel
theorem dX4_init_5 : decode cX4_init 5 = .ok (.bipush 40, 2) := by decide +kernel
theorem dX4_init_7 : decode cX4_init 7 = .ok (.newarray .long, 2) := by decide +kernel
theorem dX4_init_9 : decode cX4_init 9 = .ok (.putfield 9, 3) := by decide +kernel
theorem dX4_init_12 : decode cX4_init 12 = .ok (.aload_n 0, 1) := by decide +kernel
theorem dX4_init_13 : decode cX4_init 13 = .ok (.bipush 40, 2) := by decide +kernel
theorem dX4_init_15 : decode cX4_init 15 = .ok (.newarray .long, 2) := by decide +kernel
theorem dX4_init_17 : decode cX4_init 17 = .ok (.putfield 15, 3) := by decide +kernel
theorem dX4_init_20 : decode cX4_init 20 = .ok (.aload_n 0, 1) := by decide +kernel
theorem dX4_init_21 : decode cX4_init 21 = .ok (.bipush 40, 2) := by decide +kernel
theorem dX4_init_23 : decode cX4_init 23 = .ok (.newarray .long, 2) := by decide +kernel
theorem dX4_init_25 : decode cX4_init 25 = .ok (.putfield 18, 3) := by decide +kernel
theorem dX4_init_28 : decode cX4_init 28 = .ok (.aload_n 0, 1) := by decide +kernel
theorem dX4_init_29 : decode cX4_init 29 = .ok (.sipush 480, 3) := by decide +kernel
theorem dX4_init_32 : decode cX4_init 32 = .ok (.newarray .long, 2) := by decide +kernel
theorem dX4_init_34 : decode cX4_init 34 = .ok (.putfield 21, 3) := by decide +kernel
theorem dX4_init_37 : decode cX4_init 37 = .ok (.aload_n 0, 1) := by decide +kernel
theorem dX4_init_38 : decode cX4_init 38 = .ok (.bipush 40, 2) := by decide +kernel
theorem dX4_init_40 : decode cX4_init 40 = .ok (.newarray .int, 2) := by decide +kernel
theorem dX4_init_42 : decode cX4_init 42 = .ok (.putfield 24, 3) := by decide +kernel
theorem dX4_init_45 : decode cX4_init 45 = .ok (.aload_n 0, 1) := by decide +kernel
theorem dX4_init_46 : decode cX4_init 46 = .ok (.bipush 40, 2) := by decide +kernel
theorem dX4_init_48 : decode cX4_init 48 = .ok (.newarray .long, 2) := by decide +kernel
theorem dX4_init_50 : decode cX4_init 50 = .ok (.putfield 28, 3) := by decide +kernel
theorem dX4_init_53 : decode cX4_init 53 = .ok (.aload_n 0, 1) := by decide +kernel
theorem dX4_init_54 : decode cX4_init 54 = .ok (.bipush 12, 2) := by decide +kernel
theorem dX4_init_56 : decode cX4_init 56 = .ok (.newarray .long, 2) := by decide +kernel
theorem dX4_init_58 : decode cX4_init 58 = .ok (.putfield 31, 3) := by decide +kernel
theorem dX4_init_61 : decode cX4_init 61 = .ok (.aload_n 0, 1) := by decide +kernel
theorem dX4_init_62 : decode cX4_init 62 = .ok (.bipush 40, 2) := by decide +kernel
theorem dX4_init_64 : decode cX4_init 64 = .ok (.newarray .long, 2) := by decide +kernel
theorem dX4_init_66 : decode cX4_init 66 = .ok (.putfield 34, 3) := by decide +kernel
theorem dX4_init_69 : decode cX4_init 69 = .ok (.return_, 1) := by decide +kernel
theorem dX4_begin_0 : decode cX4_begin 0 = .ok (.iconst 0, 1) := by decide +kernel
theorem dX4_begin_1 : decode cX4_begin 1 = .ok (.istore_n 3, 1) := by decide +kernel
theorem dX4_begin_2 : decode cX4_begin 2 = .ok (.iload_n 3, 1) := by decide +kernel
theorem dX4_begin_3 : decode cX4_begin 3 = .ok (.aload_n 2, 1) := by decide +kernel
theorem dX4_begin_4 : decode cX4_begin 4 = .ok (.getfield 37, 3) := by decide +kernel
theorem dX4_begin_7 : decode cX4_begin 7 = .ok (.if_icmp .ge 75, 3) := by decide +kernel
theorem dX4_begin_10 : decode cX4_begin 10 = .ok (.aload_n 0, 1) := by decide +kernel
theorem dX4_begin_11 : decode cX4_begin 11 = .ok (.getfield 9, 3) := by decide +kernel
theorem dX4_begin_14 : decode cX4_begin 14 = .ok (.iload_n 3, 1) := by decide +kernel
theorem dX4_begin_15 : decode cX4_begin 15 = .ok (.lconst 0, 1) := by decide +kernel
theorem dX4_begin_16 : decode cX4_begin 16 = .ok (.lastore, 1) := by decide +kernel
theorem dX4_begin_17 : decode cX4_begin 17 = .ok (.aload_n 0, 1) := by decide +kernel
theorem dX4_begin_18 : decode cX4_begin 18 = .ok (.getfield 15, 3) := by decide +kernel
theorem dX4_begin_21 : decode cX4_begin 21 = .ok (.iload_n 3, 1) := by decide +kernel
theorem dX4_begin_22 : decode cX4_begin 22 = .ok (.lconst 0, 1) := by decide +kernel
theorem dX4_begin_23 : decode cX4_begin 23 = .ok (.lastore, 1) := by decide +kernel
theorem dX4_begin_24 : decode cX4_begin 24 = .ok (.aload_n 0, 1) := by decide +kernel
theorem dX4_begin_25 : decode cX4_begin 25 = .ok (.getfield 18, 3) := by decide +kernel
theorem dX4_begin_28 : decode cX4_begin 28 = .ok (.iload_n 3, 1) := by decide +kernel
theorem dX4_begin_29 : decode cX4_begin 29 = .ok (.lconst 0, 1) := by decide +kernel
theorem dX4_begin_30 : decode cX4_begin 30 = .ok (.lastore, 1) := by decide +kernel
theorem dX4_begin_31 : decode cX4_begin 31 = .ok (.aload_n 0, 1) := by decide +kernel
theorem dX4_begin_32 : decode cX4_begin 32 = .ok (.getfield 24, 3) := by decide +kernel
theorem dX4_begin_35 : decode cX4_begin 35 = .ok (.iload_n 3, 1) := by decide +kernel
theorem dX4_begin_36 : decode cX4_begin 36 = .ok (.iconst 0, 1) := by decide +kernel
theorem dX4_begin_37 : decode cX4_begin 37 = .ok (.iastore, 1) := by decide +kernel
theorem dX4_begin_38 : decode cX4_begin 38 = .ok (.aload_n 0, 1) := by decide +kernel
theorem dX4_begin_39 : decode cX4_begin 39 = .ok (.getfield 28, 3) := by decide +kernel
theorem dX4_begin_42 : decode cX4_begin 42 = .ok (.iload_n 3, 1) := by decide +kernel
theorem dX4_begin_43 : decode cX4_begin 43 = .ok (.lconst 0, 1) := by decide +kernel
theorem dX4_begin_44 : decode cX4_begin 44 = .ok (.lastore, 1) := by decide +kernel
theorem dX4_begin_45 : decode cX4_begin 45 = .ok (.iconst 0, 1) := by decide +kernel
theorem dX4_begin_46 : decode cX4_begin 46 = .ok (.istore 4, 2) := by decide +kernel
theorem dX4_begin_48 : decode cX4_begin 48 = .ok (.iload 4, 2) := by decide +kernel
theorem dX4_begin_50 : decode cX4_begin 50 = .ok (.aload_n 1, 1) := by decide +kernel
theorem dX4_begin_51 : decode cX4_begin 51 = .ok (.getfield 43, 3) := by decide +kernel
theorem dX4_begin_54 : decode cX4_begin 54 = .ok (.if_icmp .ge 22, 3) := by decide +kernel
theorem dX4_begin_57 : decode cX4_begin 57 = .ok (.aload_n 0, 1) := by decide +kernel
theorem dX4_begin_58 : decode cX4_begin 58 = .ok (.getfield 21, 3) := by decide +kernel
theorem dX4_begin_61 : decode cX4_begin 61 = .ok (.iload_n 3, 1) := by decide +kernel
theorem dX4_begin_62 : decode cX4_begin 62 = .ok (.bipush 12, 2) := by decide +kernel
theorem dX4_begin_64 : decode cX4_begin 64 = .ok (.imul, 1) := by decide +kernel
theorem dX4_begin_65 : decode cX4_begin 65 = .ok (.iload 4, 2) := by decide +kernel
theorem dX4_begin_67 : decode cX4_begin 67 = .ok (.iadd, 1) := by decide +kernel
theorem dX4_begin_68 : decode cX4_begin 68 = .ok (.lconst 0, 1) := by decide +kernel
theorem dX4_begin_69 : decode cX4_begin 69 = .ok (.lastore, 1) := by decide +kernel
theorem dX4_begin_70 : decode cX4_begin 70 = .ok (.iinc 4 1, 3) := by decide +kernel
theorem dX4_begin_73 : decode cX4_begin 73 = .ok (.goto (-25), 3) := by decide +kernel
theorem dX4_begin_76 : decode cX4_begin 76 = .ok (.iinc 3 1, 3) := by decide +kernel
theorem dX4_begin_79 : decode cX4_begin 79 = .ok (.goto (-77), 3) := by decide +kernel
theorem dX4_begin_82 : decode cX4_begin 82 = .ok (.aload_n 0, 1) := by decide +kernel
theorem dX4_begin_83 : decode cX4_begin 83 = .ok (.lconst 0, 1) := by decide +kernel
theorem dX4_begin_84 : decode cX4_begin 84 = .ok (.putfield 48, 3) := by decide +kernel
theorem dX4_begin_87 : decode cX4_begin 87 = .ok (.aload_n 2, 1) := by decide +kernel
theorem dX4_begin_88 : decode cX4_begin 88 = .ok (.getfield 37, 3) := by decide +kernel
theorem dX4_begin_91 : decode cX4_begin 91 = .ok (.ifCond .le 28, 3) := by decide +kernel
theorem dX4_begin_94 : decode cX4_begin 94 = .ok (.aload_n 0, 1) := by decide +kernel
theorem dX4_begin_95 : decode cX4_begin 95 = .ok (.lconst 1, 1) := by decide +kernel
theorem dX4_begin_96 : decode cX4_begin 96 = .ok (.putfield 48, 3) := by decide +kernel
theorem dX4_begin_99 : decode cX4_begin 99 = .ok (.aload_n 0, 1) := by decide +kernel
theorem dX4_begin_100 : decode cX4_begin 100 = .ok (.getfield 9, 3) := by decide +kernel
theorem dX4_begin_103 : decode cX4_begin 103 = .ok (.iconst 0, 1) := by decide +kernel
theorem dX4_begin_104 : decode cX4_begin 104 = .ok (.aload_n 1, 1) := by decide +kernel
theorem dX4_begin_105 : decode cX4_begin 105 = .ok (.getfield 52, 3) := by decide +kernel
theorem dX4_begin_108 : decode cX4_begin 108 = .ok (.lastore, 1) := by decide +kernel
theorem dX4_begin_109 : decode cX4_begin 109 = .ok (.aload_n 0, 1) := by decide +kernel
theorem dX4_begin_110 : decode cX4_begin 110 = .ok (.getfield 15, 3) := by decide +kernel
theorem dX4_begin_113 : decode cX4_begin 113 = .ok (.iconst 0, 1) := by decide +kernel
theorem dX4_begin_114 : decode cX4_begin 114 = .ok (.aload_n 1, 1) := by decide +kernel
theorem dX4_begin_115 : decode cX4_begin 115 = .ok (.getfield 55, 3) := by decide +kernel
theorem dX4_begin_118 : decode cX4_begin 118 = .ok (.lastore, 1) := by decide +kernel
theorem dX4_begin_119 : decode cX4_begin 119 = .ok (.return_, 1) := by decide +kernel
theorem dX4_comesTo_0 : decode cX4_comesTo 0 = .ok (.aload_n 0, 1) := by decide +kernel
theorem dX4_comesTo_1 : decode cX4_comesTo 1 = .ok (.getfield 48, 3) := by decide +kernel
theorem dX4_comesTo_4 : decode cX4_comesTo 4 = .ok (.iload_n 1, 1) := by decide +kernel
theorem dX4_comesTo_5 : decode cX4_comesTo 5 = .ok (.invokestatic 58, 3) := by decide +kernel
theorem dX4_comesTo_8 : decode cX4_comesTo 8 = .ok (.ireturn, 1) := by decide +kernel
theorem dX4_statesOf_0 : decode cX4_statesOf 0 = .ok (.iconst 0, 1) := by decide +kernel
theorem dX4_statesOf_1 : decode cX4_statesOf 1 = .ok (.istore 4, 2) := by decide +kernel
theorem dX4_statesOf_3 : decode cX4_statesOf 3 = .ok (.iload 4, 2) := by decide +kernel
theorem dX4_statesOf_5 : decode cX4_statesOf 5 = .ok (.aload_n 0, 1) := by decide +kernel
theorem dX4_statesOf_6 : decode cX4_statesOf 6 = .ok (.getfield 9, 3) := by decide +kernel
theorem dX4_statesOf_9 : decode cX4_statesOf 9 = .ok (.iload_n 1, 1) := by decide +kernel
theorem dX4_statesOf_10 : decode cX4_statesOf 10 = .ok (.laload, 1) := by decide +kernel
theorem dX4_statesOf_11 : decode cX4_statesOf 11 = .ok (.lload_n 2, 1) := by decide +kernel
theorem dX4_statesOf_12 : decode cX4_statesOf 12 = .ok (.land, 1) := by decide +kernel
theorem dX4_statesOf_13 : decode cX4_statesOf 13 = .ok (.lconst 0, 1) := by decide +kernel
theorem dX4_statesOf_14 : decode cX4_statesOf 14 = .ok (.lcmp, 1) := by decide +kernel
theorem dX4_statesOf_15 : decode cX4_statesOf 15 = .ok (.ifCond .eq 7, 3) := by decide +kernel
theorem dX4_statesOf_18 : decode cX4_statesOf 18 = .ok (.iconst 1, 1) := by decide +kernel
theorem dX4_statesOf_19 : decode cX4_statesOf 19 = .ok (.goto 4, 3) := by decide +kernel
theorem dX4_statesOf_22 : decode cX4_statesOf 22 = .ok (.iconst 0, 1) := by decide +kernel
theorem dX4_statesOf_23 : decode cX4_statesOf 23 = .ok (.ior, 1) := by decide +kernel
theorem dX4_statesOf_24 : decode cX4_statesOf 24 = .ok (.istore 4, 2) := by decide +kernel
theorem dX4_statesOf_26 : decode cX4_statesOf 26 = .ok (.iload 4, 2) := by decide +kernel
theorem dX4_statesOf_28 : decode cX4_statesOf 28 = .ok (.aload_n 0, 1) := by decide +kernel
theorem dX4_statesOf_29 : decode cX4_statesOf 29 = .ok (.getfield 15, 3) := by decide +kernel
theorem dX4_statesOf_32 : decode cX4_statesOf 32 = .ok (.iload_n 1, 1) := by decide +kernel
theorem dX4_statesOf_33 : decode cX4_statesOf 33 = .ok (.laload, 1) := by decide +kernel
theorem dX4_statesOf_34 : decode cX4_statesOf 34 = .ok (.lload_n 2, 1) := by decide +kernel
theorem dX4_statesOf_35 : decode cX4_statesOf 35 = .ok (.land, 1) := by decide +kernel
theorem dX4_statesOf_36 : decode cX4_statesOf 36 = .ok (.lconst 0, 1) := by decide +kernel
theorem dX4_statesOf_37 : decode cX4_statesOf 37 = .ok (.lcmp, 1) := by decide +kernel
theorem dX4_statesOf_38 : decode cX4_statesOf 38 = .ok (.ifCond .eq 7, 3) := by decide +kernel
theorem dX4_statesOf_41 : decode cX4_statesOf 41 = .ok (.iconst 2, 1) := by decide +kernel
theorem dX4_statesOf_42 : decode cX4_statesOf 42 = .ok (.goto 4, 3) := by decide +kernel
theorem dX4_statesOf_45 : decode cX4_statesOf 45 = .ok (.iconst 0, 1) := by decide +kernel
theorem dX4_statesOf_46 : decode cX4_statesOf 46 = .ok (.ior, 1) := by decide +kernel
theorem dX4_statesOf_47 : decode cX4_statesOf 47 = .ok (.istore 4, 2) := by decide +kernel
theorem dX4_statesOf_49 : decode cX4_statesOf 49 = .ok (.iload 4, 2) := by decide +kernel
theorem dX4_statesOf_51 : decode cX4_statesOf 51 = .ok (.aload_n 0, 1) := by decide +kernel
theorem dX4_statesOf_52 : decode cX4_statesOf 52 = .ok (.getfield 18, 3) := by decide +kernel
theorem dX4_statesOf_55 : decode cX4_statesOf 55 = .ok (.iload_n 1, 1) := by decide +kernel
theorem dX4_statesOf_56 : decode cX4_statesOf 56 = .ok (.laload, 1) := by decide +kernel
theorem dX4_statesOf_57 : decode cX4_statesOf 57 = .ok (.lload_n 2, 1) := by decide +kernel
theorem dX4_statesOf_58 : decode cX4_statesOf 58 = .ok (.land, 1) := by decide +kernel
theorem dX4_statesOf_59 : decode cX4_statesOf 59 = .ok (.lconst 0, 1) := by decide +kernel
theorem dX4_statesOf_60 : decode cX4_statesOf 60 = .ok (.lcmp, 1) := by decide +kernel
theorem dX4_statesOf_61 : decode cX4_statesOf 61 = .ok (.ifCond .eq 7, 3) := by decide +kernel
theorem dX4_statesOf_64 : decode cX4_statesOf 64 = .ok (.iconst 4, 1) := by decide +kernel
theorem dX4_statesOf_65 : decode cX4_statesOf 65 = .ok (.goto 4, 3) := by decide +kernel
theorem dX4_statesOf_68 : decode cX4_statesOf 68 = .ok (.iconst 0, 1) := by decide +kernel
theorem dX4_statesOf_69 : decode cX4_statesOf 69 = .ok (.ior, 1) := by decide +kernel
theorem dX4_statesOf_70 : decode cX4_statesOf 70 = .ok (.istore 4, 2) := by decide +kernel
theorem dX4_statesOf_72 : decode cX4_statesOf 72 = .ok (.iload 4, 2) := by decide +kernel
theorem dX4_statesOf_74 : decode cX4_statesOf 74 = .ok (.ireturn, 1) := by decide +kernel
theorem dX4_loansIn_0 : decode cX4_loansIn 0 = .ok (.aload_n 0, 1) := by decide +kernel
theorem dX4_loansIn_1 : decode cX4_loansIn 1 = .ok (.getfield 21, 3) := by decide +kernel
theorem dX4_loansIn_4 : decode cX4_loansIn 4 = .ok (.iload_n 1, 1) := by decide +kernel
theorem dX4_loansIn_5 : decode cX4_loansIn 5 = .ok (.bipush 12, 2) := by decide +kernel
theorem dX4_loansIn_7 : decode cX4_loansIn 7 = .ok (.imul, 1) := by decide +kernel
theorem dX4_loansIn_8 : decode cX4_loansIn 8 = .ok (.iload_n 2, 1) := by decide +kernel
theorem dX4_loansIn_9 : decode cX4_loansIn 9 = .ok (.iadd, 1) := by decide +kernel
theorem dX4_loansIn_10 : decode cX4_loansIn 10 = .ok (.laload, 1) := by decide +kernel
theorem dX4_loansIn_11 : decode cX4_loansIn 11 = .ok (.lreturn, 1) := by decide +kernel
theorem dX4_findAhead_0 : decode cX4_findAhead 0 = .ok (.iconst 1, 1) := by decide +kernel
theorem dX4_findAhead_1 : decode cX4_findAhead 1 = .ok (.istore_n 3, 1) := by decide +kernel
theorem dX4_findAhead_2 : decode cX4_findAhead 2 = .ok (.iconst 0, 1) := by decide +kernel
theorem dX4_findAhead_3 : decode cX4_findAhead 3 = .ok (.istore 4, 2) := by decide +kernel
theorem dX4_findAhead_5 : decode cX4_findAhead 5 = .ok (.iload 4, 2) := by decide +kernel
theorem dX4_findAhead_7 : decode cX4_findAhead 7 = .ok (.ldc 62, 2) := by decide +kernel
theorem dX4_findAhead_9 : decode cX4_findAhead 9 = .ok (.if_icmp .ge 55, 3) := by decide +kernel
theorem dX4_findAhead_12 : decode cX4_findAhead 12 = .ok (.iload_n 3, 1) := by decide +kernel
theorem dX4_findAhead_13 : decode cX4_findAhead 13 = .ok (.ifCond .eq 51, 3) := by decide +kernel
theorem dX4_findAhead_16 : decode cX4_findAhead 16 = .ok (.iconst 0, 1) := by decide +kernel
theorem dX4_findAhead_17 : decode cX4_findAhead 17 = .ok (.istore_n 3, 1) := by decide +kernel
theorem dX4_findAhead_18 : decode cX4_findAhead 18 = .ok (.iconst 0, 1) := by decide +kernel
theorem dX4_findAhead_19 : decode cX4_findAhead 19 = .ok (.istore 5, 2) := by decide +kernel
theorem dX4_findAhead_21 : decode cX4_findAhead 21 = .ok (.iload 5, 2) := by decide +kernel
theorem dX4_findAhead_23 : decode cX4_findAhead 23 = .ok (.aload_n 2, 1) := by decide +kernel
theorem dX4_findAhead_24 : decode cX4_findAhead 24 = .ok (.getfield 37, 3) := by decide +kernel
theorem dX4_findAhead_27 : decode cX4_findAhead 27 = .ok (.if_icmp .ge 31, 3) := by decide +kernel
theorem dX4_findAhead_30 : decode cX4_findAhead 30 = .ok (.aload_n 0, 1) := by decide +kernel
theorem dX4_findAhead_31 : decode cX4_findAhead 31 = .ok (.iload 5, 2) := by decide +kernel
theorem dX4_findAhead_33 : decode cX4_findAhead 33 = .ok (.invokevirtual 63, 3) := by decide +kernel
theorem dX4_findAhead_36 : decode cX4_findAhead 36 = .ok (.ifCond .eq 16, 3) := by decide +kernel
theorem dX4_findAhead_39 : decode cX4_findAhead 39 = .ok (.aload_n 0, 1) := by decide +kernel
theorem dX4_findAhead_40 : decode cX4_findAhead 40 = .ok (.aload_n 1, 1) := by decide +kernel
theorem dX4_findAhead_41 : decode cX4_findAhead 41 = .ok (.aload_n 2, 1) := by decide +kernel
theorem dX4_findAhead_42 : decode cX4_findAhead 42 = .ok (.iload 5, 2) := by decide +kernel
theorem dX4_findAhead_44 : decode cX4_findAhead 44 = .ok (.invokevirtual 67, 3) := by decide +kernel
theorem dX4_findAhead_47 : decode cX4_findAhead 47 = .ok (.ifCond .eq 5, 3) := by decide +kernel
theorem dX4_findAhead_50 : decode cX4_findAhead 50 = .ok (.iconst 1, 1) := by decide +kernel
theorem dX4_findAhead_51 : decode cX4_findAhead 51 = .ok (.istore_n 3, 1) := by decide +kernel
theorem dX4_findAhead_52 : decode cX4_findAhead 52 = .ok (.iinc 5 1, 3) := by decide +kernel
theorem dX4_findAhead_55 : decode cX4_findAhead 55 = .ok (.goto (-34), 3) := by decide +kernel
theorem dX4_findAhead_58 : decode cX4_findAhead 58 = .ok (.iinc 4 1, 3) := by decide +kernel
theorem dX4_findAhead_61 : decode cX4_findAhead 61 = .ok (.goto (-56), 3) := by decide +kernel
theorem dX4_findAhead_64 : decode cX4_findAhead 64 = .ok (.return_, 1) := by decide +kernel
theorem dX4_pass_0 : decode cX4_pass 0 = .ok (.iconst 0, 1) := by decide +kernel
theorem dX4_pass_1 : decode cX4_pass 1 = .ok (.istore 4, 2) := by decide +kernel
theorem dX4_pass_3 : decode cX4_pass 3 = .ok (.iload 4, 2) := by decide +kernel
theorem dX4_pass_5 : decode cX4_pass 5 = .ok (.aload_n 1, 1) := by decide +kernel
theorem dX4_pass_6 : decode cX4_pass 6 = .ok (.getfield 43, 3) := by decide +kernel
theorem dX4_pass_9 : decode cX4_pass 9 = .ok (.if_icmp .ge 49, 3) := by decide +kernel
theorem dX4_pass_12 : decode cX4_pass 12 = .ok (.aload_n 0, 1) := by decide +kernel
theorem dX4_pass_13 : decode cX4_pass 13 = .ok (.getfield 31, 3) := by decide +kernel
theorem dX4_pass_16 : decode cX4_pass 16 = .ok (.iload 4, 2) := by decide +kernel
theorem dX4_pass_18 : decode cX4_pass 18 = .ok (.aload_n 2, 1) := by decide +kernel
theorem dX4_pass_19 : decode cX4_pass 19 = .ok (.getfield 71, 3) := by decide +kernel
theorem dX4_pass_22 : decode cX4_pass 22 = .ok (.iload_n 3, 1) := by decide +kernel
theorem dX4_pass_23 : decode cX4_pass 23 = .ok (.iaload, 1) := by decide +kernel
theorem dX4_pass_24 : decode cX4_pass 24 = .ok (.i2l, 1) := by decide +kernel
theorem dX4_pass_25 : decode cX4_pass 25 = .ok (.iload 4, 2) := by decide +kernel
theorem dX4_pass_27 : decode cX4_pass 27 = .ok (.invokestatic 58, 3) := by decide +kernel
theorem dX4_pass_30 : decode cX4_pass 30 = .ok (.ifCond .eq 14, 3) := by decide +kernel
theorem dX4_pass_33 : decode cX4_pass 33 = .ok (.aload_n 0, 1) := by decide +kernel
theorem dX4_pass_34 : decode cX4_pass 34 = .ok (.aload_n 1, 1) := by decide +kernel
theorem dX4_pass_35 : decode cX4_pass 35 = .ok (.iload_n 3, 1) := by decide +kernel
theorem dX4_pass_36 : decode cX4_pass 36 = .ok (.iload 4, 2) := by decide +kernel
theorem dX4_pass_38 : decode cX4_pass 38 = .ok (.invokevirtual 74, 3) := by decide +kernel
theorem dX4_pass_41 : decode cX4_pass 41 = .ok (.goto 10, 3) := by decide +kernel
theorem dX4_pass_44 : decode cX4_pass 44 = .ok (.aload_n 0, 1) := by decide +kernel
theorem dX4_pass_45 : decode cX4_pass 45 = .ok (.iload_n 3, 1) := by decide +kernel
theorem dX4_pass_46 : decode cX4_pass 46 = .ok (.iload 4, 2) := by decide +kernel
theorem dX4_pass_48 : decode cX4_pass 48 = .ok (.invokevirtual 78, 3) := by decide +kernel
theorem dX4_pass_51 : decode cX4_pass 51 = .ok (.lastore, 1) := by decide +kernel
theorem dX4_pass_52 : decode cX4_pass 52 = .ok (.iinc 4 1, 3) := by decide +kernel
theorem dX4_pass_55 : decode cX4_pass 55 = .ok (.goto (-52), 3) := by decide +kernel
theorem dX4_pass_58 : decode cX4_pass 58 = .ok (.aload_n 0, 1) := by decide +kernel
theorem dX4_pass_59 : decode cX4_pass 59 = .ok (.aload_n 1, 1) := by decide +kernel
theorem dX4_pass_60 : decode cX4_pass 60 = .ok (.aload_n 2, 1) := by decide +kernel
theorem dX4_pass_61 : decode cX4_pass 61 = .ok (.iload_n 3, 1) := by decide +kernel
theorem dX4_pass_62 : decode cX4_pass 62 = .ok (.aload_n 2, 1) := by decide +kernel
theorem dX4_pass_63 : decode cX4_pass 63 = .ok (.getfield 82, 3) := by decide +kernel
theorem dX4_pass_66 : decode cX4_pass 66 = .ok (.iload_n 3, 1) := by decide +kernel
theorem dX4_pass_67 : decode cX4_pass 67 = .ok (.iaload, 1) := by decide +kernel
theorem dX4_pass_68 : decode cX4_pass 68 = .ok (.invokevirtual 85, 3) := by decide +kernel
theorem dX4_pass_71 : decode cX4_pass 71 = .ok (.istore 4, 2) := by decide +kernel
theorem dX4_pass_73 : decode cX4_pass 73 = .ok (.aload_n 0, 1) := by decide +kernel
theorem dX4_pass_74 : decode cX4_pass 74 = .ok (.aload_n 1, 1) := by decide +kernel
theorem dX4_pass_75 : decode cX4_pass 75 = .ok (.aload_n 2, 1) := by decide +kernel
theorem dX4_pass_76 : decode cX4_pass 76 = .ok (.iload_n 3, 1) := by decide +kernel
theorem dX4_pass_77 : decode cX4_pass 77 = .ok (.aload_n 2, 1) := by decide +kernel
theorem dX4_pass_78 : decode cX4_pass 78 = .ok (.getfield 89, 3) := by decide +kernel
theorem dX4_pass_81 : decode cX4_pass 81 = .ok (.iload_n 3, 1) := by decide +kernel
theorem dX4_pass_82 : decode cX4_pass 82 = .ok (.iaload, 1) := by decide +kernel
theorem dX4_pass_83 : decode cX4_pass 83 = .ok (.invokevirtual 85, 3) := by decide +kernel
theorem dX4_pass_86 : decode cX4_pass 86 = .ok (.ifCond .ne 8, 3) := by decide +kernel
theorem dX4_pass_89 : decode cX4_pass 89 = .ok (.iload 4, 2) := by decide +kernel
theorem dX4_pass_91 : decode cX4_pass 91 = .ok (.ifCond .eq 7, 3) := by decide +kernel
theorem dX4_pass_94 : decode cX4_pass 94 = .ok (.iconst 1, 1) := by decide +kernel
theorem dX4_pass_95 : decode cX4_pass 95 = .ok (.goto 4, 3) := by decide +kernel
theorem dX4_pass_98 : decode cX4_pass 98 = .ok (.iconst 0, 1) := by decide +kernel
theorem dX4_pass_99 : decode cX4_pass 99 = .ok (.ireturn, 1) := by decide +kernel
theorem dX4_loansSet_0 : decode cX4_loansSet 0 = .ok (.aload_n 1, 1) := by decide +kernel
theorem dX4_loansSet_1 : decode cX4_loansSet 1 = .ok (.iload_n 3, 1) := by decide +kernel
theorem dX4_loansSet_2 : decode cX4_loansSet 2 = .ok (.invokevirtual 92, 3) := by decide +kernel
theorem dX4_loansSet_5 : decode cX4_loansSet 5 = .ok (.ifCond .ne 5, 3) := by decide +kernel
theorem dX4_loansSet_8 : decode cX4_loansSet 8 = .ok (.lconst 0, 1) := by decide +kernel
theorem dX4_loansSet_9 : decode cX4_loansSet 9 = .ok (.lreturn, 1) := by decide +kernel
theorem dX4_loansSet_10 : decode cX4_loansSet 10 = .ok (.aload_n 1, 1) := by decide +kernel
theorem dX4_loansSet_11 : decode cX4_loansSet 11 = .ok (.iload_n 2, 1) := by decide +kernel
theorem dX4_loansSet_12 : decode cX4_loansSet 12 = .ok (.invokevirtual 95, 3) := by decide +kernel
theorem dX4_loansSet_15 : decode cX4_loansSet 15 = .ok (.ifCond .eq 9, 3) := by decide +kernel
theorem dX4_loansSet_18 : decode cX4_loansSet 18 = .ok (.lconst 1, 1) := by decide +kernel
theorem dX4_loansSet_19 : decode cX4_loansSet 19 = .ok (.iload_n 2, 1) := by decide +kernel
theorem dX4_loansSet_20 : decode cX4_loansSet 20 = .ok (.lshl, 1) := by decide +kernel
theorem dX4_loansSet_21 : decode cX4_loansSet 21 = .ok (.goto 4, 3) := by decide +kernel
theorem dX4_loansSet_24 : decode cX4_loansSet 24 = .ok (.lconst 0, 1) := by decide +kernel
theorem dX4_loansSet_25 : decode cX4_loansSet 25 = .ok (.lstore 4, 2) := by decide +kernel
theorem dX4_loansSet_27 : decode cX4_loansSet 27 = .ok (.iconst 0, 1) := by decide +kernel
theorem dX4_loansSet_28 : decode cX4_loansSet 28 = .ok (.istore 6, 2) := by decide +kernel
theorem dX4_loansSet_30 : decode cX4_loansSet 30 = .ok (.iload 6, 2) := by decide +kernel
theorem dX4_loansSet_32 : decode cX4_loansSet 32 = .ok (.aload_n 1, 1) := by decide +kernel
theorem dX4_loansSet_33 : decode cX4_loansSet 33 = .ok (.getfield 43, 3) := by decide +kernel
theorem dX4_loansSet_36 : decode cX4_loansSet 36 = .ok (.if_icmp .ge 36, 3) := by decide +kernel
theorem dX4_loansSet_39 : decode cX4_loansSet 39 = .ok (.aload_n 1, 1) := by decide +kernel
theorem dX4_loansSet_40 : decode cX4_loansSet 40 = .ok (.getfield 98, 3) := by decide +kernel
theorem dX4_loansSet_43 : decode cX4_loansSet 43 = .ok (.iload_n 2, 1) := by decide +kernel
theorem dX4_loansSet_44 : decode cX4_loansSet 44 = .ok (.iaload, 1) := by decide +kernel
theorem dX4_loansSet_45 : decode cX4_loansSet 45 = .ok (.i2l, 1) := by decide +kernel
theorem dX4_loansSet_46 : decode cX4_loansSet 46 = .ok (.iload 6, 2) := by decide +kernel
theorem dX4_loansSet_48 : decode cX4_loansSet 48 = .ok (.invokestatic 58, 3) := by decide +kernel
theorem dX4_loansSet_51 : decode cX4_loansSet 51 = .ok (.ifCond .eq 15, 3) := by decide +kernel
theorem dX4_loansSet_54 : decode cX4_loansSet 54 = .ok (.lload 4, 2) := by decide +kernel
theorem dX4_loansSet_56 : decode cX4_loansSet 56 = .ok (.aload_n 0, 1) := by decide +kernel
theorem dX4_loansSet_57 : decode cX4_loansSet 57 = .ok (.iload_n 2, 1) := by decide +kernel
theorem dX4_loansSet_58 : decode cX4_loansSet 58 = .ok (.iload 6, 2) := by decide +kernel
theorem dX4_loansSet_60 : decode cX4_loansSet 60 = .ok (.invokevirtual 78, 3) := by decide +kernel
theorem dX4_loansSet_63 : decode cX4_loansSet 63 = .ok (.lor, 1) := by decide +kernel
theorem dX4_loansSet_64 : decode cX4_loansSet 64 = .ok (.lstore 4, 2) := by decide +kernel
theorem dX4_loansSet_66 : decode cX4_loansSet 66 = .ok (.iinc 6 1, 3) := by decide +kernel
theorem dX4_loansSet_69 : decode cX4_loansSet 69 = .ok (.goto (-39), 3) := by decide +kernel
theorem dX4_loansSet_72 : decode cX4_loansSet 72 = .ok (.lload 4, 2) := by decide +kernel
theorem dX4_loansSet_74 : decode cX4_loansSet 74 = .ok (.lreturn, 1) := by decide +kernel
theorem dX4_arrive_0 : decode cX4_arrive 0 = .ok (.iload 4, 2) := by decide +kernel
theorem dX4_arrive_2 : decode cX4_arrive 2 = .ok (.iconst (-1), 1) := by decide +kernel
theorem dX4_arrive_3 : decode cX4_arrive 3 = .ok (.if_icmp .ne 5, 3) := by decide +kernel
theorem dX4_arrive_6 : decode cX4_arrive 6 = .ok (.iconst 0, 1) := by decide +kernel
theorem dX4_arrive_7 : decode cX4_arrive 7 = .ok (.ireturn, 1) := by decide +kernel
theorem dX4_arrive_8 : decode cX4_arrive 8 = .ok (.aload_n 0, 1) := by decide +kernel
theorem dX4_arrive_9 : decode cX4_arrive 9 = .ok (.getfield 48, 3) := by decide +kernel
theorem dX4_arrive_12 : decode cX4_arrive 12 = .ok (.lstore 5, 2) := by decide +kernel
theorem dX4_arrive_14 : decode cX4_arrive 14 = .ok (.aload_n 0, 1) := by decide +kernel
theorem dX4_arrive_15 : decode cX4_arrive 15 = .ok (.dup, 1) := by decide +kernel
theorem dX4_arrive_16 : decode cX4_arrive 16 = .ok (.getfield 48, 3) := by decide +kernel
theorem dX4_arrive_19 : decode cX4_arrive 19 = .ok (.lconst 1, 1) := by decide +kernel
theorem dX4_arrive_20 : decode cX4_arrive 20 = .ok (.iload 4, 2) := by decide +kernel
theorem dX4_arrive_22 : decode cX4_arrive 22 = .ok (.lshl, 1) := by decide +kernel
theorem dX4_arrive_23 : decode cX4_arrive 23 = .ok (.lor, 1) := by decide +kernel
theorem dX4_arrive_24 : decode cX4_arrive 24 = .ok (.putfield 48, 3) := by decide +kernel
theorem dX4_arrive_27 : decode cX4_arrive 27 = .ok (.aload_n 0, 1) := by decide +kernel
theorem dX4_arrive_28 : decode cX4_arrive 28 = .ok (.getfield 48, 3) := by decide +kernel
theorem dX4_arrive_31 : decode cX4_arrive 31 = .ok (.lload 5, 2) := by decide +kernel
theorem dX4_arrive_33 : decode cX4_arrive 33 = .ok (.lcmp, 1) := by decide +kernel
theorem dX4_arrive_34 : decode cX4_arrive 34 = .ok (.ifCond .eq 7, 3) := by decide +kernel
theorem dX4_arrive_37 : decode cX4_arrive 37 = .ok (.iconst 1, 1) := by decide +kernel
theorem dX4_arrive_38 : decode cX4_arrive 38 = .ok (.goto 4, 3) := by decide +kernel
theorem dX4_arrive_41 : decode cX4_arrive 41 = .ok (.iconst 0, 1) := by decide +kernel
theorem dX4_arrive_42 : decode cX4_arrive 42 = .ok (.istore 7, 2) := by decide +kernel
theorem dX4_arrive_44 : decode cX4_arrive 44 = .ok (.aload_n 2, 1) := by decide +kernel
theorem dX4_arrive_45 : decode cX4_arrive 45 = .ok (.getfield 101, 3) := by decide +kernel
theorem dX4_arrive_48 : decode cX4_arrive 48 = .ok (.iload_n 3, 1) := by decide +kernel
theorem dX4_arrive_49 : decode cX4_arrive 49 = .ok (.laload, 1) := by decide +kernel
theorem dX4_arrive_50 : decode cX4_arrive 50 = .ok (.ldc2_w 104, 3) := by decide +kernel
theorem dX4_arrive_53 : decode cX4_arrive 53 = .ok (.lxor, 1) := by decide +kernel
theorem dX4_arrive_54 : decode cX4_arrive 54 = .ok (.lstore 8, 2) := by decide +kernel
theorem dX4_arrive_56 : decode cX4_arrive 56 = .ok (.iload 7, 2) := by decide +kernel
theorem dX4_arrive_58 : decode cX4_arrive 58 = .ok (.aload_n 0, 1) := by decide +kernel
theorem dX4_arrive_59 : decode cX4_arrive 59 = .ok (.getfield 9, 3) := by decide +kernel
theorem dX4_arrive_62 : decode cX4_arrive 62 = .ok (.iload 4, 2) := by decide +kernel
theorem dX4_arrive_64 : decode cX4_arrive 64 = .ok (.aload_n 2, 1) := by decide +kernel
theorem dX4_arrive_65 : decode cX4_arrive 65 = .ok (.getfield 106, 3) := by decide +kernel
theorem dX4_arrive_68 : decode cX4_arrive 68 = .ok (.iload_n 3, 1) := by decide +kernel
theorem dX4_arrive_69 : decode cX4_arrive 69 = .ok (.laload, 1) := by decide +kernel
theorem dX4_arrive_70 : decode cX4_arrive 70 = .ok (.aload_n 0, 1) := by decide +kernel
theorem dX4_arrive_71 : decode cX4_arrive 71 = .ok (.getfield 9, 3) := by decide +kernel
theorem dX4_arrive_74 : decode cX4_arrive 74 = .ok (.iload_n 3, 1) := by decide +kernel
theorem dX4_arrive_75 : decode cX4_arrive 75 = .ok (.laload, 1) := by decide +kernel
theorem dX4_arrive_76 : decode cX4_arrive 76 = .ok (.lload 8, 2) := by decide +kernel
theorem dX4_arrive_78 : decode cX4_arrive 78 = .ok (.land, 1) := by decide +kernel
theorem dX4_arrive_79 : decode cX4_arrive 79 = .ok (.lor, 1) := by decide +kernel
theorem dX4_arrive_80 : decode cX4_arrive 80 = .ok (.invokestatic 109, 3) := by decide +kernel
theorem dX4_arrive_83 : decode cX4_arrive 83 = .ok (.ior, 1) := by decide +kernel
theorem dX4_arrive_84 : decode cX4_arrive 84 = .ok (.istore 7, 2) := by decide +kernel
theorem dX4_arrive_86 : decode cX4_arrive 86 = .ok (.iload 7, 2) := by decide +kernel
theorem dX4_arrive_88 : decode cX4_arrive 88 = .ok (.aload_n 0, 1) := by decide +kernel
theorem dX4_arrive_89 : decode cX4_arrive 89 = .ok (.getfield 15, 3) := by decide +kernel
theorem dX4_arrive_92 : decode cX4_arrive 92 = .ok (.iload 4, 2) := by decide +kernel
theorem dX4_arrive_94 : decode cX4_arrive 94 = .ok (.aload_n 2, 1) := by decide +kernel
theorem dX4_arrive_95 : decode cX4_arrive 95 = .ok (.getfield 113, 3) := by decide +kernel
theorem dX4_arrive_98 : decode cX4_arrive 98 = .ok (.iload_n 3, 1) := by decide +kernel
theorem dX4_arrive_99 : decode cX4_arrive 99 = .ok (.laload, 1) := by decide +kernel
theorem dX4_arrive_100 : decode cX4_arrive 100 = .ok (.aload_n 0, 1) := by decide +kernel
theorem dX4_arrive_101 : decode cX4_arrive 101 = .ok (.getfield 15, 3) := by decide +kernel
theorem dX4_arrive_104 : decode cX4_arrive 104 = .ok (.iload_n 3, 1) := by decide +kernel
theorem dX4_arrive_105 : decode cX4_arrive 105 = .ok (.laload, 1) := by decide +kernel
theorem dX4_arrive_106 : decode cX4_arrive 106 = .ok (.lload 8, 2) := by decide +kernel
theorem dX4_arrive_108 : decode cX4_arrive 108 = .ok (.land, 1) := by decide +kernel
theorem dX4_arrive_109 : decode cX4_arrive 109 = .ok (.lor, 1) := by decide +kernel
theorem dX4_arrive_110 : decode cX4_arrive 110 = .ok (.invokestatic 109, 3) := by decide +kernel
theorem dX4_arrive_113 : decode cX4_arrive 113 = .ok (.ior, 1) := by decide +kernel
theorem dX4_arrive_114 : decode cX4_arrive 114 = .ok (.istore 7, 2) := by decide +kernel
theorem dX4_arrive_116 : decode cX4_arrive 116 = .ok (.iload 7, 2) := by decide +kernel
theorem dX4_arrive_118 : decode cX4_arrive 118 = .ok (.aload_n 0, 1) := by decide +kernel
theorem dX4_arrive_119 : decode cX4_arrive 119 = .ok (.getfield 18, 3) := by decide +kernel
theorem dX4_arrive_122 : decode cX4_arrive 122 = .ok (.iload 4, 2) := by decide +kernel
theorem dX4_arrive_124 : decode cX4_arrive 124 = .ok (.aload_n 2, 1) := by decide +kernel
theorem dX4_arrive_125 : decode cX4_arrive 125 = .ok (.getfield 116, 3) := by decide +kernel
theorem dX4_arrive_128 : decode cX4_arrive 128 = .ok (.iload_n 3, 1) := by decide +kernel
theorem dX4_arrive_129 : decode cX4_arrive 129 = .ok (.laload, 1) := by decide +kernel
theorem dX4_arrive_130 : decode cX4_arrive 130 = .ok (.aload_n 0, 1) := by decide +kernel
theorem dX4_arrive_131 : decode cX4_arrive 131 = .ok (.getfield 18, 3) := by decide +kernel
theorem dX4_arrive_134 : decode cX4_arrive 134 = .ok (.iload_n 3, 1) := by decide +kernel
theorem dX4_arrive_135 : decode cX4_arrive 135 = .ok (.laload, 1) := by decide +kernel
theorem dX4_arrive_136 : decode cX4_arrive 136 = .ok (.lload 8, 2) := by decide +kernel
theorem dX4_arrive_138 : decode cX4_arrive 138 = .ok (.land, 1) := by decide +kernel
theorem dX4_arrive_139 : decode cX4_arrive 139 = .ok (.lor, 1) := by decide +kernel
theorem dX4_arrive_140 : decode cX4_arrive 140 = .ok (.invokestatic 109, 3) := by decide +kernel
theorem dX4_arrive_143 : decode cX4_arrive 143 = .ok (.ior, 1) := by decide +kernel
theorem dX4_arrive_144 : decode cX4_arrive 144 = .ok (.istore 7, 2) := by decide +kernel
theorem dX4_arrive_146 : decode cX4_arrive 146 = .ok (.iconst 0, 1) := by decide +kernel
theorem dX4_arrive_147 : decode cX4_arrive 147 = .ok (.istore 10, 2) := by decide +kernel
theorem dX4_arrive_149 : decode cX4_arrive 149 = .ok (.iload 10, 2) := by decide +kernel
theorem dX4_arrive_151 : decode cX4_arrive 151 = .ok (.aload_n 1, 1) := by decide +kernel
theorem dX4_arrive_152 : decode cX4_arrive 152 = .ok (.getfield 43, 3) := by decide +kernel
theorem dX4_arrive_155 : decode cX4_arrive 155 = .ok (.if_icmp .ge 36, 3) := by decide +kernel
theorem dX4_arrive_158 : decode cX4_arrive 158 = .ok (.iload 7, 2) := by decide +kernel
theorem dX4_arrive_160 : decode cX4_arrive 160 = .ok (.aload_n 0, 1) := by decide +kernel
theorem dX4_arrive_161 : decode cX4_arrive 161 = .ok (.getfield 21, 3) := by decide +kernel
theorem dX4_arrive_164 : decode cX4_arrive 164 = .ok (.iload 4, 2) := by decide +kernel
theorem dX4_arrive_166 : decode cX4_arrive 166 = .ok (.bipush 12, 2) := by decide +kernel
theorem dX4_arrive_168 : decode cX4_arrive 168 = .ok (.imul, 1) := by decide +kernel
theorem dX4_arrive_169 : decode cX4_arrive 169 = .ok (.iload 10, 2) := by decide +kernel
theorem dX4_arrive_171 : decode cX4_arrive 171 = .ok (.iadd, 1) := by decide +kernel
theorem dX4_arrive_172 : decode cX4_arrive 172 = .ok (.aload_n 0, 1) := by decide +kernel
theorem dX4_arrive_173 : decode cX4_arrive 173 = .ok (.getfield 31, 3) := by decide +kernel
theorem dX4_arrive_176 : decode cX4_arrive 176 = .ok (.iload 10, 2) := by decide +kernel
theorem dX4_arrive_178 : decode cX4_arrive 178 = .ok (.laload, 1) := by decide +kernel
theorem dX4_arrive_179 : decode cX4_arrive 179 = .ok (.invokestatic 109, 3) := by decide +kernel
theorem dX4_arrive_182 : decode cX4_arrive 182 = .ok (.ior, 1) := by decide +kernel
theorem dX4_arrive_183 : decode cX4_arrive 183 = .ok (.istore 7, 2) := by decide +kernel
theorem dX4_arrive_185 : decode cX4_arrive 185 = .ok (.iinc 10 1, 3) := by decide +kernel
theorem dX4_arrive_188 : decode cX4_arrive 188 = .ok (.goto (-39), 3) := by decide +kernel
theorem dX4_arrive_191 : decode cX4_arrive 191 = .ok (.iload 7, 2) := by decide +kernel
theorem dX4_arrive_193 : decode cX4_arrive 193 = .ok (.ireturn, 1) := by decide +kernel
theorem dX4_addTo_0 : decode cX4_addTo 0 = .ok (.aload_n 0, 1) := by decide +kernel
theorem dX4_addTo_1 : decode cX4_addTo 1 = .ok (.iload_n 1, 1) := by decide +kernel
theorem dX4_addTo_2 : decode cX4_addTo 2 = .ok (.laload, 1) := by decide +kernel
theorem dX4_addTo_3 : decode cX4_addTo 3 = .ok (.lstore 4, 2) := by decide +kernel
theorem dX4_addTo_5 : decode cX4_addTo 5 = .ok (.aload_n 0, 1) := by decide +kernel
theorem dX4_addTo_6 : decode cX4_addTo 6 = .ok (.iload_n 1, 1) := by decide +kernel
theorem dX4_addTo_7 : decode cX4_addTo 7 = .ok (.lload 4, 2) := by decide +kernel
theorem dX4_addTo_9 : decode cX4_addTo 9 = .ok (.lload_n 2, 1) := by decide +kernel
theorem dX4_addTo_10 : decode cX4_addTo 10 = .ok (.lor, 1) := by decide +kernel
theorem dX4_addTo_11 : decode cX4_addTo 11 = .ok (.lastore, 1) := by decide +kernel
theorem dX4_addTo_12 : decode cX4_addTo 12 = .ok (.aload_n 0, 1) := by decide +kernel
theorem dX4_addTo_13 : decode cX4_addTo 13 = .ok (.iload_n 1, 1) := by decide +kernel
theorem dX4_addTo_14 : decode cX4_addTo 14 = .ok (.laload, 1) := by decide +kernel
theorem dX4_addTo_15 : decode cX4_addTo 15 = .ok (.lload 4, 2) := by decide +kernel
theorem dX4_addTo_17 : decode cX4_addTo 17 = .ok (.lcmp, 1) := by decide +kernel
theorem dX4_addTo_18 : decode cX4_addTo 18 = .ok (.ifCond .eq 7, 3) := by decide +kernel
theorem dX4_addTo_21 : decode cX4_addTo 21 = .ok (.iconst 1, 1) := by decide +kernel
theorem dX4_addTo_22 : decode cX4_addTo 22 = .ok (.goto 4, 3) := by decide +kernel
theorem dX4_addTo_25 : decode cX4_addTo 25 = .ok (.iconst 0, 1) := by decide +kernel
theorem dX4_addTo_26 : decode cX4_addTo 26 = .ok (.ireturn, 1) := by decide +kernel
theorem dX4_findAwaited_0 : decode cX4_findAwaited 0 = .ok (.iconst 1, 1) := by decide +kernel
theorem dX4_findAwaited_1 : decode cX4_findAwaited 1 = .ok (.istore_n 2, 1) := by decide +kernel
theorem dX4_findAwaited_2 : decode cX4_findAwaited 2 = .ok (.iconst 0, 1) := by decide +kernel
theorem dX4_findAwaited_3 : decode cX4_findAwaited 3 = .ok (.istore_n 3, 1) := by decide +kernel
theorem dX4_findAwaited_4 : decode cX4_findAwaited 4 = .ok (.iload_n 3, 1) := by decide +kernel
theorem dX4_findAwaited_5 : decode cX4_findAwaited 5 = .ok (.ldc 62, 2) := by decide +kernel
theorem dX4_findAwaited_7 : decode cX4_findAwaited 7 = .ok (.if_icmp .ge 55, 3) := by decide +kernel
theorem dX4_findAwaited_10 : decode cX4_findAwaited 10 = .ok (.iload_n 2, 1) := by decide +kernel
theorem dX4_findAwaited_11 : decode cX4_findAwaited 11 = .ok (.ifCond .eq 51, 3) := by decide +kernel
theorem dX4_findAwaited_14 : decode cX4_findAwaited 14 = .ok (.iconst 0, 1) := by decide +kernel
theorem dX4_findAwaited_15 : decode cX4_findAwaited 15 = .ok (.istore_n 2, 1) := by decide +kernel
theorem dX4_findAwaited_16 : decode cX4_findAwaited 16 = .ok (.aload_n 1, 1) := by decide +kernel
theorem dX4_findAwaited_17 : decode cX4_findAwaited 17 = .ok (.getfield 37, 3) := by decide +kernel
theorem dX4_findAwaited_20 : decode cX4_findAwaited 20 = .ok (.iconst 1, 1) := by decide +kernel
theorem dX4_findAwaited_21 : decode cX4_findAwaited 21 = .ok (.isub, 1) := by decide +kernel
theorem dX4_findAwaited_22 : decode cX4_findAwaited 22 = .ok (.istore 4, 2) := by decide +kernel
theorem dX4_findAwaited_24 : decode cX4_findAwaited 24 = .ok (.iload 4, 2) := by decide +kernel
theorem dX4_findAwaited_26 : decode cX4_findAwaited 26 = .ok (.ifCond .lt 30, 3) := by decide +kernel
theorem dX4_findAwaited_29 : decode cX4_findAwaited 29 = .ok (.aload_n 0, 1) := by decide +kernel
theorem dX4_findAwaited_30 : decode cX4_findAwaited 30 = .ok (.iload 4, 2) := by decide +kernel
theorem dX4_findAwaited_32 : decode cX4_findAwaited 32 = .ok (.invokevirtual 63, 3) := by decide +kernel
theorem dX4_findAwaited_35 : decode cX4_findAwaited 35 = .ok (.ifCond .eq 15, 3) := by decide +kernel
theorem dX4_findAwaited_38 : decode cX4_findAwaited 38 = .ok (.aload_n 0, 1) := by decide +kernel
theorem dX4_findAwaited_39 : decode cX4_findAwaited 39 = .ok (.aload_n 1, 1) := by decide +kernel
theorem dX4_findAwaited_40 : decode cX4_findAwaited 40 = .ok (.iload 4, 2) := by decide +kernel
theorem dX4_findAwaited_42 : decode cX4_findAwaited 42 = .ok (.invokevirtual 119, 3) := by decide +kernel
theorem dX4_findAwaited_45 : decode cX4_findAwaited 45 = .ok (.ifCond .eq 5, 3) := by decide +kernel
theorem dX4_findAwaited_48 : decode cX4_findAwaited 48 = .ok (.iconst 1, 1) := by decide +kernel
theorem dX4_findAwaited_49 : decode cX4_findAwaited 49 = .ok (.istore_n 2, 1) := by decide +kernel
theorem dX4_findAwaited_50 : decode cX4_findAwaited 50 = .ok (.iinc 4 (-1), 3) := by decide +kernel
theorem dX4_findAwaited_53 : decode cX4_findAwaited 53 = .ok (.goto (-29), 3) := by decide +kernel
theorem dX4_findAwaited_56 : decode cX4_findAwaited 56 = .ok (.iinc 3 1, 3) := by decide +kernel
theorem dX4_findAwaited_59 : decode cX4_findAwaited 59 = .ok (.goto (-55), 3) := by decide +kernel
theorem dX4_findAwaited_62 : decode cX4_findAwaited 62 = .ok (.return_, 1) := by decide +kernel
theorem dX4_await_0 : decode cX4_await 0 = .ok (.aload_n 0, 1) := by decide +kernel
theorem dX4_await_1 : decode cX4_await 1 = .ok (.aload_n 1, 1) := by decide +kernel
theorem dX4_await_2 : decode cX4_await 2 = .ok (.getfield 82, 3) := by decide +kernel
theorem dX4_await_5 : decode cX4_await 5 = .ok (.iload_n 2, 1) := by decide +kernel
theorem dX4_await_6 : decode cX4_await 6 = .ok (.iaload, 1) := by decide +kernel
theorem dX4_await_7 : decode cX4_await 7 = .ok (.invokevirtual 123, 3) := by decide +kernel
theorem dX4_await_10 : decode cX4_await 10 = .ok (.aload_n 0, 1) := by decide +kernel
theorem dX4_await_11 : decode cX4_await 11 = .ok (.aload_n 1, 1) := by decide +kernel
theorem dX4_await_12 : decode cX4_await 12 = .ok (.getfield 89, 3) := by decide +kernel
theorem dX4_await_15 : decode cX4_await 15 = .ok (.iload_n 2, 1) := by decide +kernel
theorem dX4_await_16 : decode cX4_await 16 = .ok (.iaload, 1) := by decide +kernel
theorem dX4_await_17 : decode cX4_await 17 = .ok (.invokevirtual 123, 3) := by decide +kernel
theorem dX4_await_20 : decode cX4_await 20 = .ok (.ior, 1) := by decide +kernel
theorem dX4_await_21 : decode cX4_await 21 = .ok (.istore_n 3, 1) := by decide +kernel
theorem dX4_await_22 : decode cX4_await 22 = .ok (.aload_n 0, 1) := by decide +kernel
theorem dX4_await_23 : decode cX4_await 23 = .ok (.getfield 24, 3) := by decide +kernel
theorem dX4_await_26 : decode cX4_await 26 = .ok (.iload_n 2, 1) := by decide +kernel
theorem dX4_await_27 : decode cX4_await 27 = .ok (.iaload, 1) := by decide +kernel
theorem dX4_await_28 : decode cX4_await 28 = .ok (.istore 4, 2) := by decide +kernel
theorem dX4_await_30 : decode cX4_await 30 = .ok (.aload_n 0, 1) := by decide +kernel
theorem dX4_await_31 : decode cX4_await 31 = .ok (.getfield 24, 3) := by decide +kernel
theorem dX4_await_34 : decode cX4_await 34 = .ok (.iload_n 2, 1) := by decide +kernel
theorem dX4_await_35 : decode cX4_await 35 = .ok (.aload_n 1, 1) := by decide +kernel
theorem dX4_await_36 : decode cX4_await 36 = .ok (.getfield 127, 3) := by decide +kernel
theorem dX4_await_39 : decode cX4_await 39 = .ok (.iload_n 2, 1) := by decide +kernel
theorem dX4_await_40 : decode cX4_await 40 = .ok (.iaload, 1) := by decide +kernel
theorem dX4_await_41 : decode cX4_await 41 = .ok (.iload_n 3, 1) := by decide +kernel
theorem dX4_await_42 : decode cX4_await 42 = .ok (.aload_n 1, 1) := by decide +kernel
theorem dX4_await_43 : decode cX4_await 43 = .ok (.getfield 71, 3) := by decide +kernel
theorem dX4_await_46 : decode cX4_await 46 = .ok (.iload_n 2, 1) := by decide +kernel
theorem dX4_await_47 : decode cX4_await 47 = .ok (.iaload, 1) := by decide +kernel
theorem dX4_await_48 : decode cX4_await 48 = .ok (.iconst (-1), 1) := by decide +kernel
theorem dX4_await_49 : decode cX4_await 49 = .ok (.ixor, 1) := by decide +kernel
theorem dX4_await_50 : decode cX4_await 50 = .ok (.iand, 1) := by decide +kernel
theorem dX4_await_51 : decode cX4_await 51 = .ok (.ior, 1) := by decide +kernel
theorem dX4_await_52 : decode cX4_await 52 = .ok (.iastore, 1) := by decide +kernel
theorem dX4_await_53 : decode cX4_await 53 = .ok (.aload_n 0, 1) := by decide +kernel
theorem dX4_await_54 : decode cX4_await 54 = .ok (.getfield 24, 3) := by decide +kernel
theorem dX4_await_57 : decode cX4_await 57 = .ok (.iload_n 2, 1) := by decide +kernel
theorem dX4_await_58 : decode cX4_await 58 = .ok (.iaload, 1) := by decide +kernel
theorem dX4_await_59 : decode cX4_await 59 = .ok (.iload 4, 2) := by decide +kernel
theorem dX4_await_61 : decode cX4_await 61 = .ok (.if_icmp .eq 7, 3) := by decide +kernel
theorem dX4_await_64 : decode cX4_await 64 = .ok (.iconst 1, 1) := by decide +kernel
theorem dX4_await_65 : decode cX4_await 65 = .ok (.goto 4, 3) := by decide +kernel
theorem dX4_await_68 : decode cX4_await 68 = .ok (.iconst 0, 1) := by decide +kernel
theorem dX4_await_69 : decode cX4_await 69 = .ok (.ireturn, 1) := by decide +kernel
theorem dX4_awaitedAt_0 : decode cX4_awaitedAt 0 = .ok (.iload_n 1, 1) := by decide +kernel
theorem dX4_awaitedAt_1 : decode cX4_awaitedAt 1 = .ok (.iconst (-1), 1) := by decide +kernel
theorem dX4_awaitedAt_2 : decode cX4_awaitedAt 2 = .ok (.if_icmp .ne 7, 3) := by decide +kernel
theorem dX4_awaitedAt_5 : decode cX4_awaitedAt 5 = .ok (.iconst 0, 1) := by decide +kernel
theorem dX4_awaitedAt_6 : decode cX4_awaitedAt 6 = .ok (.goto 9, 3) := by decide +kernel
theorem dX4_awaitedAt_9 : decode cX4_awaitedAt 9 = .ok (.aload_n 0, 1) := by decide +kernel
theorem dX4_awaitedAt_10 : decode cX4_awaitedAt 10 = .ok (.getfield 24, 3) := by decide +kernel
theorem dX4_awaitedAt_13 : decode cX4_awaitedAt 13 = .ok (.iload_n 1, 1) := by decide +kernel
theorem dX4_awaitedAt_14 : decode cX4_awaitedAt 14 = .ok (.iaload, 1) := by decide +kernel
theorem dX4_awaitedAt_15 : decode cX4_awaitedAt 15 = .ok (.ireturn, 1) := by decide +kernel
theorem dX4_findLiving_0 : decode cX4_findLiving 0 = .ok (.iconst 0, 1) := by decide +kernel
theorem dX4_findLiving_1 : decode cX4_findLiving 1 = .ok (.istore_n 3, 1) := by decide +kernel
theorem dX4_findLiving_2 : decode cX4_findLiving 2 = .ok (.iload_n 3, 1) := by decide +kernel
theorem dX4_findLiving_3 : decode cX4_findLiving 3 = .ok (.aload_n 2, 1) := by decide +kernel
theorem dX4_findLiving_4 : decode cX4_findLiving 4 = .ok (.getfield 37, 3) := by decide +kernel
theorem dX4_findLiving_7 : decode cX4_findLiving 7 = .ok (.if_icmp .ge 58, 3) := by decide +kernel
theorem dX4_findLiving_10 : decode cX4_findLiving 10 = .ok (.iconst 0, 1) := by decide +kernel
theorem dX4_findLiving_11 : decode cX4_findLiving 11 = .ok (.istore 4, 2) := by decide +kernel
theorem dX4_findLiving_13 : decode cX4_findLiving 13 = .ok (.iload 4, 2) := by decide +kernel
theorem dX4_findLiving_15 : decode cX4_findLiving 15 = .ok (.aload_n 1, 1) := by decide +kernel
theorem dX4_findLiving_16 : decode cX4_findLiving 16 = .ok (.getfield 43, 3) := by decide +kernel
theorem dX4_findLiving_19 : decode cX4_findLiving 19 = .ok (.if_icmp .ge 40, 3) := by decide +kernel
theorem dX4_findLiving_22 : decode cX4_findLiving 22 = .ok (.aload_n 0, 1) := by decide +kernel
theorem dX4_findLiving_23 : decode cX4_findLiving 23 = .ok (.getfield 24, 3) := by decide +kernel
theorem dX4_findLiving_26 : decode cX4_findLiving 26 = .ok (.iload_n 3, 1) := by decide +kernel
theorem dX4_findLiving_27 : decode cX4_findLiving 27 = .ok (.iaload, 1) := by decide +kernel
theorem dX4_findLiving_28 : decode cX4_findLiving 28 = .ok (.i2l, 1) := by decide +kernel
theorem dX4_findLiving_29 : decode cX4_findLiving 29 = .ok (.iload 4, 2) := by decide +kernel
theorem dX4_findLiving_31 : decode cX4_findLiving 31 = .ok (.invokestatic 58, 3) := by decide +kernel
theorem dX4_findLiving_34 : decode cX4_findLiving 34 = .ok (.ifCond .eq 19, 3) := by decide +kernel
theorem dX4_findLiving_37 : decode cX4_findLiving 37 = .ok (.aload_n 0, 1) := by decide +kernel
theorem dX4_findLiving_38 : decode cX4_findLiving 38 = .ok (.getfield 28, 3) := by decide +kernel
theorem dX4_findLiving_41 : decode cX4_findLiving 41 = .ok (.iload_n 3, 1) := by decide +kernel
theorem dX4_findLiving_42 : decode cX4_findLiving 42 = .ok (.dup2, 1) := by decide +kernel
theorem dX4_findLiving_43 : decode cX4_findLiving 43 = .ok (.laload, 1) := by decide +kernel
theorem dX4_findLiving_44 : decode cX4_findLiving 44 = .ok (.aload_n 0, 1) := by decide +kernel
theorem dX4_findLiving_45 : decode cX4_findLiving 45 = .ok (.iload_n 3, 1) := by decide +kernel
theorem dX4_findLiving_46 : decode cX4_findLiving 46 = .ok (.iload 4, 2) := by decide +kernel
theorem dX4_findLiving_48 : decode cX4_findLiving 48 = .ok (.invokevirtual 78, 3) := by decide +kernel
theorem dX4_findLiving_51 : decode cX4_findLiving 51 = .ok (.lor, 1) := by decide +kernel
theorem dX4_findLiving_52 : decode cX4_findLiving 52 = .ok (.lastore, 1) := by decide +kernel
theorem dX4_findLiving_53 : decode cX4_findLiving 53 = .ok (.iinc 4 1, 3) := by decide +kernel
theorem dX4_findLiving_56 : decode cX4_findLiving 56 = .ok (.goto (-43), 3) := by decide +kernel
theorem dX4_findLiving_59 : decode cX4_findLiving 59 = .ok (.iinc 3 1, 3) := by decide +kernel
theorem dX4_findLiving_62 : decode cX4_findLiving 62 = .ok (.goto (-60), 3) := by decide +kernel
theorem dX4_findLiving_65 : decode cX4_findLiving 65 = .ok (.return_, 1) := by decide +kernel
theorem dX4_holderOf_0 : decode cX4_holderOf 0 = .ok (.iconst 0, 1) := by decide +kernel
theorem dX4_holderOf_1 : decode cX4_holderOf 1 = .ok (.istore 4, 2) := by decide +kernel
theorem dX4_holderOf_3 : decode cX4_holderOf 3 = .ok (.iload 4, 2) := by decide +kernel
theorem dX4_holderOf_5 : decode cX4_holderOf 5 = .ok (.aload_n 1, 1) := by decide +kernel
theorem dX4_holderOf_6 : decode cX4_holderOf 6 = .ok (.getfield 43, 3) := by decide +kernel
theorem dX4_holderOf_9 : decode cX4_holderOf 9 = .ok (.if_icmp .ge 41, 3) := by decide +kernel
theorem dX4_holderOf_12 : decode cX4_holderOf 12 = .ok (.aload_n 0, 1) := by decide +kernel
theorem dX4_holderOf_13 : decode cX4_holderOf 13 = .ok (.getfield 24, 3) := by decide +kernel
theorem dX4_holderOf_16 : decode cX4_holderOf 16 = .ok (.iload_n 2, 1) := by decide +kernel
theorem dX4_holderOf_17 : decode cX4_holderOf 17 = .ok (.iaload, 1) := by decide +kernel
theorem dX4_holderOf_18 : decode cX4_holderOf 18 = .ok (.i2l, 1) := by decide +kernel
theorem dX4_holderOf_19 : decode cX4_holderOf 19 = .ok (.iload 4, 2) := by decide +kernel
theorem dX4_holderOf_21 : decode cX4_holderOf 21 = .ok (.invokestatic 58, 3) := by decide +kernel
theorem dX4_holderOf_24 : decode cX4_holderOf 24 = .ok (.ifCond .eq 20, 3) := by decide +kernel
theorem dX4_holderOf_27 : decode cX4_holderOf 27 = .ok (.aload_n 0, 1) := by decide +kernel
theorem dX4_holderOf_28 : decode cX4_holderOf 28 = .ok (.iload_n 2, 1) := by decide +kernel
theorem dX4_holderOf_29 : decode cX4_holderOf 29 = .ok (.iload 4, 2) := by decide +kernel
theorem dX4_holderOf_31 : decode cX4_holderOf 31 = .ok (.invokevirtual 78, 3) := by decide +kernel
theorem dX4_holderOf_34 : decode cX4_holderOf 34 = .ok (.iload_n 3, 1) := by decide +kernel
theorem dX4_holderOf_35 : decode cX4_holderOf 35 = .ok (.invokestatic 58, 3) := by decide +kernel
theorem dX4_holderOf_38 : decode cX4_holderOf 38 = .ok (.ifCond .eq 6, 3) := by decide +kernel
theorem dX4_holderOf_41 : decode cX4_holderOf 41 = .ok (.iload 4, 2) := by decide +kernel
theorem dX4_holderOf_43 : decode cX4_holderOf 43 = .ok (.ireturn, 1) := by decide +kernel
theorem dX4_holderOf_44 : decode cX4_holderOf 44 = .ok (.iinc 4 1, 3) := by decide +kernel
theorem dX4_holderOf_47 : decode cX4_holderOf 47 = .ok (.goto (-44), 3) := by decide +kernel
theorem dX4_holderOf_50 : decode cX4_holderOf 50 = .ok (.iconst (-1), 1) := by decide +kernel
theorem dX4_holderOf_51 : decode cX4_holderOf 51 = .ok (.ireturn, 1) := by decide +kernel
theorem dX4_nextUse_0 : decode cX4_nextUse 0 = .ok (.lconst 1, 1) := by decide +kernel
theorem dX4_nextUse_1 : decode cX4_nextUse 1 = .ok (.iload_n 2, 1) := by decide +kernel
theorem dX4_nextUse_2 : decode cX4_nextUse 2 = .ok (.lshl, 1) := by decide +kernel
theorem dX4_nextUse_3 : decode cX4_nextUse 3 = .ok (.lstore 4, 2) := by decide +kernel
theorem dX4_nextUse_5 : decode cX4_nextUse 5 = .ok (.lconst 0, 1) := by decide +kernel
theorem dX4_nextUse_6 : decode cX4_nextUse 6 = .ok (.lstore 6, 2) := by decide +kernel
theorem dX4_nextUse_8 : decode cX4_nextUse 8 = .ok (.iconst 0, 1) := by decide +kernel
theorem dX4_nextUse_9 : decode cX4_nextUse 9 = .ok (.istore 8, 2) := by decide +kernel
theorem dX4_nextUse_11 : decode cX4_nextUse 11 = .ok (.iload 8, 2) := by decide +kernel
theorem dX4_nextUse_13 : decode cX4_nextUse 13 = .ok (.ldc 62, 2) := by decide +kernel
theorem dX4_nextUse_15 : decode cX4_nextUse 15 = .ok (.if_icmp .ge 90, 3) := by decide +kernel
theorem dX4_nextUse_18 : decode cX4_nextUse 18 = .ok (.lload 4, 2) := by decide +kernel
theorem dX4_nextUse_20 : decode cX4_nextUse 20 = .ok (.lload 6, 2) := by decide +kernel
theorem dX4_nextUse_22 : decode cX4_nextUse 22 = .ok (.lcmp, 1) := by decide +kernel
theorem dX4_nextUse_23 : decode cX4_nextUse 23 = .ok (.ifCond .eq 82, 3) := by decide +kernel
theorem dX4_nextUse_26 : decode cX4_nextUse 26 = .ok (.lload 4, 2) := by decide +kernel
theorem dX4_nextUse_28 : decode cX4_nextUse 28 = .ok (.lstore 6, 2) := by decide +kernel
theorem dX4_nextUse_30 : decode cX4_nextUse 30 = .ok (.iconst 0, 1) := by decide +kernel
theorem dX4_nextUse_31 : decode cX4_nextUse 31 = .ok (.istore 9, 2) := by decide +kernel
theorem dX4_nextUse_33 : decode cX4_nextUse 33 = .ok (.iload 9, 2) := by decide +kernel
theorem dX4_nextUse_35 : decode cX4_nextUse 35 = .ok (.aload_n 1, 1) := by decide +kernel
theorem dX4_nextUse_36 : decode cX4_nextUse 36 = .ok (.getfield 37, 3) := by decide +kernel
theorem dX4_nextUse_39 : decode cX4_nextUse 39 = .ok (.if_icmp .ge 60, 3) := by decide +kernel
theorem dX4_nextUse_42 : decode cX4_nextUse 42 = .ok (.lload 4, 2) := by decide +kernel
theorem dX4_nextUse_44 : decode cX4_nextUse 44 = .ok (.iload 9, 2) := by decide +kernel
theorem dX4_nextUse_46 : decode cX4_nextUse 46 = .ok (.invokestatic 58, 3) := by decide +kernel
theorem dX4_nextUse_49 : decode cX4_nextUse 49 = .ok (.ifCond .eq 44, 3) := by decide +kernel
theorem dX4_nextUse_52 : decode cX4_nextUse 52 = .ok (.aload_n 1, 1) := by decide +kernel
theorem dX4_nextUse_53 : decode cX4_nextUse 53 = .ok (.getfield 71, 3) := by decide +kernel
theorem dX4_nextUse_56 : decode cX4_nextUse 56 = .ok (.iload 9, 2) := by decide +kernel
theorem dX4_nextUse_58 : decode cX4_nextUse 58 = .ok (.iaload, 1) := by decide +kernel
theorem dX4_nextUse_59 : decode cX4_nextUse 59 = .ok (.i2l, 1) := by decide +kernel
theorem dX4_nextUse_60 : decode cX4_nextUse 60 = .ok (.iload_n 3, 1) := by decide +kernel
theorem dX4_nextUse_61 : decode cX4_nextUse 61 = .ok (.invokestatic 58, 3) := by decide +kernel
theorem dX4_nextUse_64 : decode cX4_nextUse 64 = .ok (.ifCond .ne 29, 3) := by decide +kernel
theorem dX4_nextUse_67 : decode cX4_nextUse 67 = .ok (.lload 4, 2) := by decide +kernel
theorem dX4_nextUse_69 : decode cX4_nextUse 69 = .ok (.aload_n 1, 1) := by decide +kernel
theorem dX4_nextUse_70 : decode cX4_nextUse 70 = .ok (.getfield 82, 3) := by decide +kernel
theorem dX4_nextUse_73 : decode cX4_nextUse 73 = .ok (.iload 9, 2) := by decide +kernel
theorem dX4_nextUse_75 : decode cX4_nextUse 75 = .ok (.iaload, 1) := by decide +kernel
theorem dX4_nextUse_76 : decode cX4_nextUse 76 = .ok (.invokestatic 130, 3) := by decide +kernel
theorem dX4_nextUse_79 : decode cX4_nextUse 79 = .ok (.aload_n 1, 1) := by decide +kernel
theorem dX4_nextUse_80 : decode cX4_nextUse 80 = .ok (.getfield 89, 3) := by decide +kernel
theorem dX4_nextUse_83 : decode cX4_nextUse 83 = .ok (.iload 9, 2) := by decide +kernel
theorem dX4_nextUse_85 : decode cX4_nextUse 85 = .ok (.iaload, 1) := by decide +kernel
theorem dX4_nextUse_86 : decode cX4_nextUse 86 = .ok (.invokestatic 130, 3) := by decide +kernel
theorem dX4_nextUse_89 : decode cX4_nextUse 89 = .ok (.lor, 1) := by decide +kernel
theorem dX4_nextUse_90 : decode cX4_nextUse 90 = .ok (.lor, 1) := by decide +kernel
theorem dX4_nextUse_91 : decode cX4_nextUse 91 = .ok (.lstore 4, 2) := by decide +kernel
theorem dX4_nextUse_93 : decode cX4_nextUse 93 = .ok (.iinc 9 1, 3) := by decide +kernel
theorem dX4_nextUse_96 : decode cX4_nextUse 96 = .ok (.goto (-63), 3) := by decide +kernel
theorem dX4_nextUse_99 : decode cX4_nextUse 99 = .ok (.iinc 8 1, 3) := by decide +kernel
theorem dX4_nextUse_102 : decode cX4_nextUse 102 = .ok (.goto (-91), 3) := by decide +kernel
theorem dX4_nextUse_105 : decode cX4_nextUse 105 = .ok (.iconst 0, 1) := by decide +kernel
theorem dX4_nextUse_106 : decode cX4_nextUse 106 = .ok (.istore 8, 2) := by decide +kernel
theorem dX4_nextUse_108 : decode cX4_nextUse 108 = .ok (.iload 8, 2) := by decide +kernel
theorem dX4_nextUse_110 : decode cX4_nextUse 110 = .ok (.aload_n 1, 1) := by decide +kernel
theorem dX4_nextUse_111 : decode cX4_nextUse 111 = .ok (.getfield 37, 3) := by decide +kernel
theorem dX4_nextUse_114 : decode cX4_nextUse 114 = .ok (.if_icmp .ge 37, 3) := by decide +kernel
theorem dX4_nextUse_117 : decode cX4_nextUse 117 = .ok (.lload 4, 2) := by decide +kernel
theorem dX4_nextUse_119 : decode cX4_nextUse 119 = .ok (.iload 8, 2) := by decide +kernel
theorem dX4_nextUse_121 : decode cX4_nextUse 121 = .ok (.invokestatic 58, 3) := by decide +kernel
theorem dX4_nextUse_124 : decode cX4_nextUse 124 = .ok (.ifCond .eq 21, 3) := by decide +kernel
theorem dX4_nextUse_127 : decode cX4_nextUse 127 = .ok (.aload_n 1, 1) := by decide +kernel
theorem dX4_nextUse_128 : decode cX4_nextUse 128 = .ok (.getfield 127, 3) := by decide +kernel
theorem dX4_nextUse_131 : decode cX4_nextUse 131 = .ok (.iload 8, 2) := by decide +kernel
theorem dX4_nextUse_133 : decode cX4_nextUse 133 = .ok (.iaload, 1) := by decide +kernel
theorem dX4_nextUse_134 : decode cX4_nextUse 134 = .ok (.i2l, 1) := by decide +kernel
theorem dX4_nextUse_135 : decode cX4_nextUse 135 = .ok (.iload_n 3, 1) := by decide +kernel
theorem dX4_nextUse_136 : decode cX4_nextUse 136 = .ok (.invokestatic 58, 3) := by decide +kernel
theorem dX4_nextUse_139 : decode cX4_nextUse 139 = .ok (.ifCond .eq 6, 3) := by decide +kernel
theorem dX4_nextUse_142 : decode cX4_nextUse 142 = .ok (.iload 8, 2) := by decide +kernel
theorem dX4_nextUse_144 : decode cX4_nextUse 144 = .ok (.ireturn, 1) := by decide +kernel
theorem dX4_nextUse_145 : decode cX4_nextUse 145 = .ok (.iinc 8 1, 3) := by decide +kernel
theorem dX4_nextUse_148 : decode cX4_nextUse 148 = .ok (.goto (-40), 3) := by decide +kernel
theorem dX4_nextUse_151 : decode cX4_nextUse 151 = .ok (.iconst (-1), 1) := by decide +kernel
theorem dX4_nextUse_152 : decode cX4_nextUse 152 = .ok (.ireturn, 1) := by decide +kernel
theorem dX4_bitOf_0 : decode cX4_bitOf 0 = .ok (.iload_n 0, 1) := by decide +kernel
theorem dX4_bitOf_1 : decode cX4_bitOf 1 = .ok (.iconst (-1), 1) := by decide +kernel
theorem dX4_bitOf_2 : decode cX4_bitOf 2 = .ok (.if_icmp .ne 7, 3) := by decide +kernel
theorem dX4_bitOf_5 : decode cX4_bitOf 5 = .ok (.lconst 0, 1) := by decide +kernel
theorem dX4_bitOf_6 : decode cX4_bitOf 6 = .ok (.goto 6, 3) := by decide +kernel
theorem dX4_bitOf_9 : decode cX4_bitOf 9 = .ok (.lconst 1, 1) := by decide +kernel
theorem dX4_bitOf_10 : decode cX4_bitOf 10 = .ok (.iload_n 0, 1) := by decide +kernel
theorem dX4_bitOf_11 : decode cX4_bitOf 11 = .ok (.lshl, 1) := by decide +kernel
theorem dX4_bitOf_12 : decode cX4_bitOf 12 = .ok (.lreturn, 1) := by decide +kernel
theorem dX4_smallestMover_0 : decode cX4_smallestMover 0 = .ok (.iconst 0, 1) := by decide +kernel
theorem dX4_smallestMover_1 : decode cX4_smallestMover 1 = .ok (.istore 5, 2) := by decide +kernel
theorem dX4_smallestMover_3 : decode cX4_smallestMover 3 = .ok (.iload 5, 2) := by decide +kernel
theorem dX4_smallestMover_5 : decode cX4_smallestMover 5 = .ok (.aload_n 1, 1) := by decide +kernel
theorem dX4_smallestMover_6 : decode cX4_smallestMover 6 = .ok (.getfield 37, 3) := by decide +kernel
theorem dX4_smallestMover_9 : decode cX4_smallestMover 9 = .ok (.if_icmp .ge 17, 3) := by decide +kernel
theorem dX4_smallestMover_12 : decode cX4_smallestMover 12 = .ok (.aload_n 0, 1) := by decide +kernel
theorem dX4_smallestMover_13 : decode cX4_smallestMover 13 = .ok (.getfield 34, 3) := by decide +kernel
theorem dX4_smallestMover_16 : decode cX4_smallestMover 16 = .ok (.iload 5, 2) := by decide +kernel
theorem dX4_smallestMover_18 : decode cX4_smallestMover 18 = .ok (.lconst 0, 1) := by decide +kernel
theorem dX4_smallestMover_19 : decode cX4_smallestMover 19 = .ok (.lastore, 1) := by decide +kernel
theorem dX4_smallestMover_20 : decode cX4_smallestMover 20 = .ok (.iinc 5 1, 3) := by decide +kernel
theorem dX4_smallestMover_23 : decode cX4_smallestMover 23 = .ok (.goto (-20), 3) := by decide +kernel
theorem dX4_smallestMover_26 : decode cX4_smallestMover 26 = .ok (.aload_n 0, 1) := by decide +kernel
theorem dX4_smallestMover_27 : decode cX4_smallestMover 27 = .ok (.getfield 34, 3) := by decide +kernel
theorem dX4_smallestMover_30 : decode cX4_smallestMover 30 = .ok (.iload_n 2, 1) := by decide +kernel
theorem dX4_smallestMover_31 : decode cX4_smallestMover 31 = .ok (.lload_n 3, 1) := by decide +kernel
theorem dX4_smallestMover_32 : decode cX4_smallestMover 32 = .ok (.lastore, 1) := by decide +kernel
theorem dX4_smallestMover_33 : decode cX4_smallestMover 33 = .ok (.lconst 0, 1) := by decide +kernel
theorem dX4_smallestMover_34 : decode cX4_smallestMover 34 = .ok (.lstore 5, 2) := by decide +kernel
theorem dX4_smallestMover_36 : decode cX4_smallestMover 36 = .ok (.iconst 1, 1) := by decide +kernel
theorem dX4_smallestMover_37 : decode cX4_smallestMover 37 = .ok (.istore 7, 2) := by decide +kernel
theorem dX4_smallestMover_39 : decode cX4_smallestMover 39 = .ok (.iconst 0, 1) := by decide +kernel
theorem dX4_smallestMover_40 : decode cX4_smallestMover 40 = .ok (.istore 8, 2) := by decide +kernel
theorem dX4_smallestMover_42 : decode cX4_smallestMover 42 = .ok (.iload 8, 2) := by decide +kernel
theorem dX4_smallestMover_44 : decode cX4_smallestMover 44 = .ok (.ldc 62, 2) := by decide +kernel
theorem dX4_smallestMover_46 : decode cX4_smallestMover 46 = .ok (.if_icmp .ge 122, 3) := by decide +kernel
theorem dX4_smallestMover_49 : decode cX4_smallestMover 49 = .ok (.iload 7, 2) := by decide +kernel
theorem dX4_smallestMover_51 : decode cX4_smallestMover 51 = .ok (.ifCond .eq 117, 3) := by decide +kernel
theorem dX4_smallestMover_54 : decode cX4_smallestMover 54 = .ok (.iconst 0, 1) := by decide +kernel
theorem dX4_smallestMover_55 : decode cX4_smallestMover 55 = .ok (.istore 7, 2) := by decide +kernel
theorem dX4_smallestMover_57 : decode cX4_smallestMover 57 = .ok (.aload_n 1, 1) := by decide +kernel
theorem dX4_smallestMover_58 : decode cX4_smallestMover 58 = .ok (.getfield 37, 3) := by decide +kernel
theorem dX4_smallestMover_61 : decode cX4_smallestMover 61 = .ok (.iconst 1, 1) := by decide +kernel
theorem dX4_smallestMover_62 : decode cX4_smallestMover 62 = .ok (.isub, 1) := by decide +kernel
theorem dX4_smallestMover_63 : decode cX4_smallestMover 63 = .ok (.istore 9, 2) := by decide +kernel
theorem dX4_smallestMover_65 : decode cX4_smallestMover 65 = .ok (.iload 9, 2) := by decide +kernel
theorem dX4_smallestMover_67 : decode cX4_smallestMover 67 = .ok (.ifCond .lt 95, 3) := by decide +kernel
theorem dX4_smallestMover_70 : decode cX4_smallestMover 70 = .ok (.aload_n 0, 1) := by decide +kernel
theorem dX4_smallestMover_71 : decode cX4_smallestMover 71 = .ok (.aload_n 1, 1) := by decide +kernel
theorem dX4_smallestMover_72 : decode cX4_smallestMover 72 = .ok (.getfield 82, 3) := by decide +kernel
theorem dX4_smallestMover_75 : decode cX4_smallestMover 75 = .ok (.iload 9, 2) := by decide +kernel
theorem dX4_smallestMover_77 : decode cX4_smallestMover 77 = .ok (.iaload, 1) := by decide +kernel
theorem dX4_smallestMover_78 : decode cX4_smallestMover 78 = .ok (.invokevirtual 134, 3) := by decide +kernel
theorem dX4_smallestMover_81 : decode cX4_smallestMover 81 = .ok (.aload_n 0, 1) := by decide +kernel
theorem dX4_smallestMover_82 : decode cX4_smallestMover 82 = .ok (.aload_n 1, 1) := by decide +kernel
theorem dX4_smallestMover_83 : decode cX4_smallestMover 83 = .ok (.getfield 89, 3) := by decide +kernel
theorem dX4_smallestMover_86 : decode cX4_smallestMover 86 = .ok (.iload 9, 2) := by decide +kernel
theorem dX4_smallestMover_88 : decode cX4_smallestMover 88 = .ok (.iaload, 1) := by decide +kernel
theorem dX4_smallestMover_89 : decode cX4_smallestMover 89 = .ok (.invokevirtual 134, 3) := by decide +kernel
theorem dX4_smallestMover_92 : decode cX4_smallestMover 92 = .ok (.lor, 1) := by decide +kernel
theorem dX4_smallestMover_93 : decode cX4_smallestMover 93 = .ok (.lstore 10, 2) := by decide +kernel
theorem dX4_smallestMover_95 : decode cX4_smallestMover 95 = .ok (.aload_n 0, 1) := by decide +kernel
theorem dX4_smallestMover_96 : decode cX4_smallestMover 96 = .ok (.iload 9, 2) := by decide +kernel
theorem dX4_smallestMover_98 : decode cX4_smallestMover 98 = .ok (.invokevirtual 63, 3) := by decide +kernel
theorem dX4_smallestMover_101 : decode cX4_smallestMover 101 = .ok (.ifCond .eq 27, 3) := by decide +kernel
theorem dX4_smallestMover_104 : decode cX4_smallestMover 104 = .ok (.lload 10, 2) := by decide +kernel
theorem dX4_smallestMover_106 : decode cX4_smallestMover 106 = .ok (.aload_n 1, 1) := by decide +kernel
theorem dX4_smallestMover_107 : decode cX4_smallestMover 107 = .ok (.getfield 116, 3) := by decide +kernel
theorem dX4_smallestMover_110 : decode cX4_smallestMover 110 = .ok (.iload 9, 2) := by decide +kernel
theorem dX4_smallestMover_112 : decode cX4_smallestMover 112 = .ok (.laload, 1) := by decide +kernel
theorem dX4_smallestMover_113 : decode cX4_smallestMover 113 = .ok (.land, 1) := by decide +kernel
theorem dX4_smallestMover_114 : decode cX4_smallestMover 114 = .ok (.lconst 0, 1) := by decide +kernel
theorem dX4_smallestMover_115 : decode cX4_smallestMover 115 = .ok (.lcmp, 1) := by decide +kernel
theorem dX4_smallestMover_116 : decode cX4_smallestMover 116 = .ok (.ifCond .eq 12, 3) := by decide +kernel
theorem dX4_smallestMover_119 : decode cX4_smallestMover 119 = .ok (.lload 5, 2) := by decide +kernel
theorem dX4_smallestMover_121 : decode cX4_smallestMover 121 = .ok (.lconst 1, 1) := by decide +kernel
theorem dX4_smallestMover_122 : decode cX4_smallestMover 122 = .ok (.iload 9, 2) := by decide +kernel
theorem dX4_smallestMover_124 : decode cX4_smallestMover 124 = .ok (.lshl, 1) := by decide +kernel
theorem dX4_smallestMover_125 : decode cX4_smallestMover 125 = .ok (.lor, 1) := by decide +kernel
theorem dX4_smallestMover_126 : decode cX4_smallestMover 126 = .ok (.lstore 5, 2) := by decide +kernel
theorem dX4_smallestMover_128 : decode cX4_smallestMover 128 = .ok (.iload 7, 2) := by decide +kernel
theorem dX4_smallestMover_130 : decode cX4_smallestMover 130 = .ok (.aload_n 0, 1) := by decide +kernel
theorem dX4_smallestMover_131 : decode cX4_smallestMover 131 = .ok (.getfield 34, 3) := by decide +kernel
theorem dX4_smallestMover_134 : decode cX4_smallestMover 134 = .ok (.iload 9, 2) := by decide +kernel
theorem dX4_smallestMover_136 : decode cX4_smallestMover 136 = .ok (.lload 10, 2) := by decide +kernel
theorem dX4_smallestMover_138 : decode cX4_smallestMover 138 = .ok (.aload_n 1, 1) := by decide +kernel
theorem dX4_smallestMover_139 : decode cX4_smallestMover 139 = .ok (.getfield 101, 3) := by decide +kernel
theorem dX4_smallestMover_142 : decode cX4_smallestMover 142 = .ok (.iload 9, 2) := by decide +kernel
theorem dX4_smallestMover_144 : decode cX4_smallestMover 144 = .ok (.laload, 1) := by decide +kernel
theorem dX4_smallestMover_145 : decode cX4_smallestMover 145 = .ok (.ldc2_w 104, 3) := by decide +kernel
theorem dX4_smallestMover_148 : decode cX4_smallestMover 148 = .ok (.lxor, 1) := by decide +kernel
theorem dX4_smallestMover_149 : decode cX4_smallestMover 149 = .ok (.land, 1) := by decide +kernel
theorem dX4_smallestMover_150 : decode cX4_smallestMover 150 = .ok (.invokestatic 109, 3) := by decide +kernel
theorem dX4_smallestMover_153 : decode cX4_smallestMover 153 = .ok (.ior, 1) := by decide +kernel
theorem dX4_smallestMover_154 : decode cX4_smallestMover 154 = .ok (.istore 7, 2) := by decide +kernel
theorem dX4_smallestMover_156 : decode cX4_smallestMover 156 = .ok (.iinc 9 (-1), 3) := by decide +kernel
theorem dX4_smallestMover_159 : decode cX4_smallestMover 159 = .ok (.goto (-94), 3) := by decide +kernel
theorem dX4_smallestMover_162 : decode cX4_smallestMover 162 = .ok (.iinc 8 1, 3) := by decide +kernel
theorem dX4_smallestMover_165 : decode cX4_smallestMover 165 = .ok (.goto (-123), 3) := by decide +kernel
theorem dX4_smallestMover_168 : decode cX4_smallestMover 168 = .ok (.lload 5, 2) := by decide +kernel
theorem dX4_smallestMover_170 : decode cX4_smallestMover 170 = .ok (.invokestatic 137, 3) := by decide +kernel
theorem dX4_smallestMover_173 : decode cX4_smallestMover 173 = .ok (.ireturn, 1) := by decide +kernel
theorem dX4_askedAt_0 : decode cX4_askedAt 0 = .ok (.iload_n 1, 1) := by decide +kernel
theorem dX4_askedAt_1 : decode cX4_askedAt 1 = .ok (.iconst (-1), 1) := by decide +kernel
theorem dX4_askedAt_2 : decode cX4_askedAt 2 = .ok (.if_icmp .ne 7, 3) := by decide +kernel
theorem dX4_askedAt_5 : decode cX4_askedAt 5 = .ok (.lconst 0, 1) := by decide +kernel
theorem dX4_askedAt_6 : decode cX4_askedAt 6 = .ok (.goto 9, 3) := by decide +kernel
theorem dX4_askedAt_9 : decode cX4_askedAt 9 = .ok (.aload_n 0, 1) := by decide +kernel
theorem dX4_askedAt_10 : decode cX4_askedAt 10 = .ok (.getfield 34, 3) := by decide +kernel
theorem dX4_askedAt_13 : decode cX4_askedAt 13 = .ok (.iload_n 1, 1) := by decide +kernel
theorem dX4_askedAt_14 : decode cX4_askedAt 14 = .ok (.laload, 1) := by decide +kernel
theorem dX4_askedAt_15 : decode cX4_askedAt 15 = .ok (.lreturn, 1) := by decide +kernel
theorem dX5_init_0 : decode cX5_init 0 = .ok (.aload_n 0, 1) := by decide +kernel
theorem dX5_init_1 : decode cX5_init 1 = .ok (.invokespecial 3, 3) := by decide +kernel
theorem dX5_init_4 : decode cX5_init 4 = .ok (.aload_n 0, 1) := by decide +kernel
theorem dX5_init_5 : decode cX5_init 5 = .ok (.new 9, 3) := by decide +kernel
theorem dX5_init_8 : decode cX5_init 8 = .ok (.dup, 1) := by decide +kernel
theorem dX5_init_9 : decode cX5_init 9 = .ok (.invokespecial 11, 3) := by decide +kernel
theorem dX5_init_12 : decode cX5_init 12 = .ok (.putfield 12, 3) := by decide +kernel
theorem dX5_init_15 : decode cX5_init 15 = .ok (.aload_n 0, 1) := by decide +kernel
theorem dX5_init_16 : decode cX5_init 16 = .ok (.new 16, 3) := by decide +kernel
theorem dX5_init_19 : decode cX5_init 19 = .ok (.dup, 1) := by decide +kernel
theorem dX5_init_20 : decode cX5_init 20 = .ok (.sipush 280, 3) := by decide +kernel
theorem dX5_init_23 : decode cX5_init 23 = .ok (.invokespecial 18, 3) := by decide +kernel
theorem dX5_init_26 : decode cX5_init 26 = .ok (.putfield 21, 3) := by decide +kernel
theorem dX5_init_29 : decode cX5_init 29 = .ok (.aload_n 0, 1) := by decide +kernel
theorem dX5_init_30 : decode cX5_init 30 = .ok (.new 16, 3) := by decide +kernel
theorem dX5_init_33 : decode cX5_init 33 = .ok (.dup, 1) := by decide +kernel
theorem dX5_init_34 : decode cX5_init 34 = .ok (.iconst 0, 1) := by decide +kernel
theorem dX5_init_35 : decode cX5_init 35 = .ok (.invokespecial 18, 3) := by decide +kernel
theorem dX5_init_38 : decode cX5_init 38 = .ok (.putfield 25, 3) := by decide +kernel
theorem dX5_init_41 : decode cX5_init 41 = .ok (.aload_n 0, 1) := by decide +kernel
theorem dX5_init_42 : decode cX5_init 42 = .ok (.iconst 0, 1) := by decide +kernel
theorem dX5_init_43 : decode cX5_init 43 = .ok (.putfield 28, 3) := by decide +kernel
theorem dX5_init_46 : decode cX5_init 46 = .ok (.return_, 1) := by decide +kernel
theorem dX5_variable_0 : decode cX5_variable 0 = .ok (.iload_n 1, 1) := by decide +kernel
theorem dX5_variable_1 : decode cX5_variable 1 = .ok (.ifCond .lt 8, 3) := by decide +kernel
theorem dX5_variable_4 : decode cX5_variable 4 = .ok (.iload_n 1, 1) := by decide +kernel
theorem dX5_variable_5 : decode cX5_variable 5 = .ok (.iconst 3, 1) := by decide +kernel
theorem dX5_variable_6 : decode cX5_variable 6 = .ok (.if_icmp .le 13, 3) := by decide +kernel
theorem dX5_variable_9 : decode cX5_variable 9 = .ok (.new 32, 3) := by decide +kernel
theorem dX5_variable_12 : decode cX5_variable 12 = .ok (.dup, 1) := by decide +kernel
theorem dX5_variable_13 : decode cX5_variable 13 = .ok (.ldc 34, 2) := by decide +kernel
theorem dX5_variable_15 : decode cX5_variable 15 = .ok (.invokespecial 36, 3) := by decide +kernel
theorem dX5_variable_18 : decode cX5_variable 18 = .ok (.athrow, 1) := by decide +kernel
theorem dX5_variable_19 : decode cX5_variable 19 = .ok (.aload_n 0, 1) := by decide +kernel
theorem dX5_variable_20 : decode cX5_variable 20 = .ok (.getfield 12, 3) := by decide +kernel
theorem dX5_variable_23 : decode cX5_variable 23 = .ok (.getfield 39, 3) := by decide +kernel
theorem dX5_variable_26 : decode cX5_variable 26 = .ok (.bipush 12, 2) := by decide +kernel
theorem dX5_variable_28 : decode cX5_variable 28 = .ok (.if_icmp .lt 13, 3) := by decide +kernel
theorem dX5_variable_31 : decode cX5_variable 31 = .ok (.new 43, 3) := by decide +kernel
theorem dX5_variable_34 : decode cX5_variable 34 = .ok (.dup, 1) := by decide +kernel
theorem dX5_variable_35 : decode cX5_variable 35 = .ok (.ldc 45, 2) := by decide +kernel
theorem dX5_variable_37 : decode cX5_variable 37 = .ok (.invokespecial 47, 3) := by decide +kernel
theorem dX5_variable_40 : decode cX5_variable 40 = .ok (.athrow, 1) := by decide +kernel
theorem dX5_variable_41 : decode cX5_variable 41 = .ok (.aload_n 0, 1) := by decide +kernel
theorem dX5_variable_42 : decode cX5_variable 42 = .ok (.iconst 0, 1) := by decide +kernel
theorem dX5_variable_43 : decode cX5_variable 43 = .ok (.putfield 28, 3) := by decide +kernel
theorem dX5_variable_46 : decode cX5_variable 46 = .ok (.aload_n 0, 1) := by decide +kernel
theorem dX5_variable_47 : decode cX5_variable 47 = .ok (.getfield 12, 3) := by decide +kernel
theorem dX5_variable_50 : decode cX5_variable 50 = .ok (.iload_n 1, 1) := by decide +kernel
theorem dX5_variable_51 : decode cX5_variable 51 = .ok (.iload_n 2, 1) := by decide +kernel
theorem dX5_variable_52 : decode cX5_variable 52 = .ok (.invokevirtual 48, 3) := by decide +kernel
theorem dX5_variable_55 : decode cX5_variable 55 = .ok (.ireturn, 1) := by decide +kernel
theorem dX5_write_0 : decode cX5_write 0 = .ok (.aload_n 0, 1) := by decide +kernel
theorem dX5_write_1 : decode cX5_write 1 = .ok (.iload_n 1, 1) := by decide +kernel
theorem dX5_write_2 : decode cX5_write 2 = .ok (.invokevirtual 52, 3) := by decide +kernel
theorem dX5_write_5 : decode cX5_write 5 = .ok (.aload_n 0, 1) := by decide +kernel
theorem dX5_write_6 : decode cX5_write 6 = .ok (.getfield 12, 3) := by decide +kernel
theorem dX5_write_9 : decode cX5_write 9 = .ok (.getfield 55, 3) := by decide +kernel
theorem dX5_write_12 : decode cX5_write 12 = .ok (.iload_n 1, 1) := by decide +kernel
theorem dX5_write_13 : decode cX5_write 13 = .ok (.iaload, 1) := by decide +kernel
theorem dX5_write_14 : decode cX5_write 14 = .ok (.istore_n 3, 1) := by decide +kernel
theorem dX5_write_15 : decode cX5_write 15 = .ok (.iload_n 2, 1) := by decide +kernel
theorem dX5_write_16 : decode cX5_write 16 = .ok (.iconst (-1), 1) := by decide +kernel
theorem dX5_write_17 : decode cX5_write 17 = .ok (.if_icmp .ne 18, 3) := by decide +kernel
theorem dX5_write_20 : decode cX5_write 20 = .ok (.aload_n 0, 1) := by decide +kernel
theorem dX5_write_21 : decode cX5_write 21 = .ok (.getfield 12, 3) := by decide +kernel
theorem dX5_write_24 : decode cX5_write 24 = .ok (.iload_n 1, 1) := by decide +kernel
theorem dX5_write_25 : decode cX5_write 25 = .ok (.invokevirtual 59, 3) := by decide +kernel
theorem dX5_write_28 : decode cX5_write 28 = .ok (.ifCond .ne 7, 3) := by decide +kernel
theorem dX5_write_31 : decode cX5_write 31 = .ok (.iconst 1, 1) := by decide +kernel
theorem dX5_write_32 : decode cX5_write 32 = .ok (.goto 4, 3) := by decide +kernel
theorem dX5_write_35 : decode cX5_write 35 = .ok (.iconst 0, 1) := by decide +kernel
theorem dX5_write_36 : decode cX5_write 36 = .ok (.istore 4, 2) := by decide +kernel
theorem dX5_write_38 : decode cX5_write 38 = .ok (.iload_n 2, 1) := by decide +kernel
theorem dX5_write_39 : decode cX5_write 39 = .ok (.iconst 3, 1) := by decide +kernel
theorem dX5_write_40 : decode cX5_write 40 = .ok (.if_icmp .ne 12, 3) := by decide +kernel
theorem dX5_write_43 : decode cX5_write 43 = .ok (.iload_n 3, 1) := by decide +kernel
theorem dX5_write_44 : decode cX5_write 44 = .ok (.iconst 3, 1) := by decide +kernel
theorem dX5_write_45 : decode cX5_write 45 = .ok (.if_icmp .ne 7, 3) := by decide +kernel
theorem dX5_write_48 : decode cX5_write 48 = .ok (.iconst 1, 1) := by decide +kernel
theorem dX5_write_49 : decode cX5_write 49 = .ok (.goto 4, 3) := by decide +kernel
theorem dX5_write_52 : decode cX5_write 52 = .ok (.iconst 0, 1) := by decide +kernel
theorem dX5_write_53 : decode cX5_write 53 = .ok (.istore 5, 2) := by decide +kernel
theorem dX5_write_55 : decode cX5_write 55 = .ok (.iload 4, 2) := by decide +kernel
theorem dX5_write_57 : decode cX5_write 57 = .ok (.ifCond .ne 30, 3) := by decide +kernel
theorem dX5_write_60 : decode cX5_write 60 = .ok (.aload_n 0, 1) := by decide +kernel
theorem dX5_write_61 : decode cX5_write 61 = .ok (.getfield 12, 3) := by decide +kernel
theorem dX5_write_64 : decode cX5_write 64 = .ok (.iload_n 1, 1) := by decide +kernel
theorem dX5_write_65 : decode cX5_write 65 = .ok (.iload_n 2, 1) := by decide +kernel
theorem dX5_write_66 : decode cX5_write 66 = .ok (.invokevirtual 63, 3) := by decide +kernel
theorem dX5_write_69 : decode cX5_write 69 = .ok (.ifCond .ne 18, 3) := by decide +kernel
theorem dX5_write_72 : decode cX5_write 72 = .ok (.iload 5, 2) := by decide +kernel
theorem dX5_write_74 : decode cX5_write 74 = .ok (.ifCond .ne 13, 3) := by decide +kernel
theorem dX5_write_77 : decode cX5_write 77 = .ok (.new 32, 3) := by decide +kernel
theorem dX5_write_80 : decode cX5_write 80 = .ok (.dup, 1) := by decide +kernel
theorem dX5_write_81 : decode cX5_write 81 = .ok (.ldc 67, 2) := by decide +kernel
theorem dX5_write_83 : decode cX5_write 83 = .ok (.invokespecial 36, 3) := by decide +kernel
theorem dX5_write_86 : decode cX5_write 86 = .ok (.athrow, 1) := by decide +kernel
theorem dX5_write_87 : decode cX5_write 87 = .ok (.aload_n 0, 1) := by decide +kernel
theorem dX5_write_88 : decode cX5_write 88 = .ok (.invokevirtual 69, 3) := by decide +kernel
theorem dX5_write_91 : decode cX5_write 91 = .ok (.aload_n 0, 1) := by decide +kernel
theorem dX5_write_92 : decode cX5_write 92 = .ok (.iconst 0, 1) := by decide +kernel
theorem dX5_write_93 : decode cX5_write 93 = .ok (.invokevirtual 72, 3) := by decide +kernel
theorem dX5_write_96 : decode cX5_write 96 = .ok (.istore 6, 2) := by decide +kernel
theorem dX5_write_98 : decode cX5_write 98 = .ok (.iload 4, 2) := by decide +kernel
theorem dX5_write_100 : decode cX5_write 100 = .ok (.ifCond .eq 17, 3) := by decide +kernel
theorem dX5_write_103 : decode cX5_write 103 = .ok (.aload_n 0, 1) := by decide +kernel
theorem dX5_write_104 : decode cX5_write 104 = .ok (.getfield 12, 3) := by decide +kernel
theorem dX5_write_107 : decode cX5_write 107 = .ok (.iload 6, 2) := by decide +kernel
theorem dX5_write_109 : decode cX5_write 109 = .ok (.iload_n 1, 1) := by decide +kernel
theorem dX5_write_110 : decode cX5_write 110 = .ok (.iconst 0, 1) := by decide +kernel
theorem dX5_write_111 : decode cX5_write 111 = .ok (.invokevirtual 76, 3) := by decide +kernel
theorem dX5_write_114 : decode cX5_write 114 = .ok (.goto 15, 3) := by decide +kernel
theorem dX5_write_117 : decode cX5_write 117 = .ok (.aload_n 0, 1) := by decide +kernel
theorem dX5_write_118 : decode cX5_write 118 = .ok (.getfield 12, 3) := by decide +kernel
theorem dX5_write_121 : decode cX5_write 121 = .ok (.iload 6, 2) := by decide +kernel
theorem dX5_write_123 : decode cX5_write 123 = .ok (.iconst 1, 1) := by decide +kernel
theorem dX5_write_124 : decode cX5_write 124 = .ok (.iload_n 1, 1) := by decide +kernel
theorem dX5_write_125 : decode cX5_write 125 = .ok (.iload_n 2, 1) := by decide +kernel
theorem dX5_write_126 : decode cX5_write 126 = .ok (.invokevirtual 80, 3) := by decide +kernel
theorem dX5_write_129 : decode cX5_write 129 = .ok (.iload 6, 2) := by decide +kernel
theorem dX5_write_131 : decode cX5_write 131 = .ok (.ireturn, 1) := by decide +kernel
theorem dX5_move_0 : decode cX5_move 0 = .ok (.aload_n 0, 1) := by decide +kernel
theorem dX5_move_1 : decode cX5_move 1 = .ok (.iload_n 1, 1) := by decide +kernel
theorem dX5_move_2 : decode cX5_move 2 = .ok (.invokevirtual 52, 3) := by decide +kernel
theorem dX5_move_5 : decode cX5_move 5 = .ok (.aload_n 0, 1) := by decide +kernel
theorem dX5_move_6 : decode cX5_move 6 = .ok (.iload_n 2, 1) := by decide +kernel
theorem dX5_move_7 : decode cX5_move 7 = .ok (.invokevirtual 52, 3) := by decide +kernel
theorem dX5_move_10 : decode cX5_move 10 = .ok (.aload_n 0, 1) := by decide +kernel
theorem dX5_move_11 : decode cX5_move 11 = .ok (.getfield 12, 3) := by decide +kernel
theorem dX5_move_14 : decode cX5_move 14 = .ok (.getfield 55, 3) := by decide +kernel
theorem dX5_move_17 : decode cX5_move 17 = .ok (.iload_n 1, 1) := by decide +kernel
theorem dX5_move_18 : decode cX5_move 18 = .ok (.iaload, 1) := by decide +kernel
theorem dX5_move_19 : decode cX5_move 19 = .ok (.iconst 1, 1) := by decide +kernel
theorem dX5_move_20 : decode cX5_move 20 = .ok (.if_icmp .ne 19, 3) := by decide +kernel
theorem dX5_move_23 : decode cX5_move 23 = .ok (.aload_n 0, 1) := by decide +kernel
theorem dX5_move_24 : decode cX5_move 24 = .ok (.getfield 12, 3) := by decide +kernel
theorem dX5_move_27 : decode cX5_move 27 = .ok (.iload_n 2, 1) := by decide +kernel
theorem dX5_move_28 : decode cX5_move 28 = .ok (.iload_n 3, 1) := by decide +kernel
theorem dX5_move_29 : decode cX5_move 29 = .ok (.invokevirtual 63, 3) := by decide +kernel
theorem dX5_move_32 : decode cX5_move 32 = .ok (.ifCond .eq 7, 3) := by decide +kernel
theorem dX5_move_35 : decode cX5_move 35 = .ok (.iconst 1, 1) := by decide +kernel
theorem dX5_move_36 : decode cX5_move 36 = .ok (.goto 4, 3) := by decide +kernel
theorem dX5_move_39 : decode cX5_move 39 = .ok (.iconst 0, 1) := by decide +kernel
theorem dX5_move_40 : decode cX5_move 40 = .ok (.istore 4, 2) := by decide +kernel
theorem dX5_move_42 : decode cX5_move 42 = .ok (.iload_n 3, 1) := by decide +kernel
theorem dX5_move_43 : decode cX5_move 43 = .ok (.iconst (-1), 1) := by decide +kernel
theorem dX5_move_44 : decode cX5_move 44 = .ok (.if_icmp .ne 33, 3) := by decide +kernel
theorem dX5_move_47 : decode cX5_move 47 = .ok (.iload_n 1, 1) := by decide +kernel
theorem dX5_move_48 : decode cX5_move 48 = .ok (.iload_n 2, 1) := by decide +kernel
theorem dX5_move_49 : decode cX5_move 49 = .ok (.if_icmp .eq 28, 3) := by decide +kernel
theorem dX5_move_52 : decode cX5_move 52 = .ok (.aload_n 0, 1) := by decide +kernel
theorem dX5_move_53 : decode cX5_move 53 = .ok (.getfield 12, 3) := by decide +kernel
theorem dX5_move_56 : decode cX5_move 56 = .ok (.getfield 55, 3) := by decide +kernel
theorem dX5_move_59 : decode cX5_move 59 = .ok (.iload_n 1, 1) := by decide +kernel
theorem dX5_move_60 : decode cX5_move 60 = .ok (.iaload, 1) := by decide +kernel
theorem dX5_move_61 : decode cX5_move 61 = .ok (.aload_n 0, 1) := by decide +kernel
theorem dX5_move_62 : decode cX5_move 62 = .ok (.getfield 12, 3) := by decide +kernel
theorem dX5_move_65 : decode cX5_move 65 = .ok (.getfield 55, 3) := by decide +kernel
theorem dX5_move_68 : decode cX5_move 68 = .ok (.iload_n 2, 1) := by decide +kernel
theorem dX5_move_69 : decode cX5_move 69 = .ok (.iaload, 1) := by decide +kernel
theorem dX5_move_70 : decode cX5_move 70 = .ok (.if_icmp .ne 7, 3) := by decide +kernel
theorem dX5_move_73 : decode cX5_move 73 = .ok (.iconst 1, 1) := by decide +kernel
theorem dX5_move_74 : decode cX5_move 74 = .ok (.goto 4, 3) := by decide +kernel
theorem dX5_move_77 : decode cX5_move 77 = .ok (.iconst 0, 1) := by decide +kernel
theorem dX5_move_78 : decode cX5_move 78 = .ok (.istore 5, 2) := by decide +kernel
theorem dX5_move_80 : decode cX5_move 80 = .ok (.iload 4, 2) := by decide +kernel
theorem dX5_move_82 : decode cX5_move 82 = .ok (.ifCond .ne 18, 3) := by decide +kernel
theorem dX5_move_85 : decode cX5_move 85 = .ok (.iload 5, 2) := by decide +kernel
theorem dX5_move_87 : decode cX5_move 87 = .ok (.ifCond .ne 13, 3) := by decide +kernel
theorem dX5_move_90 : decode cX5_move 90 = .ok (.new 32, 3) := by decide +kernel
theorem dX5_move_93 : decode cX5_move 93 = .ok (.dup, 1) := by decide +kernel
theorem dX5_move_94 : decode cX5_move 94 = .ok (.ldc 84, 2) := by decide +kernel
theorem dX5_move_96 : decode cX5_move 96 = .ok (.invokespecial 36, 3) := by decide +kernel
theorem dX5_move_99 : decode cX5_move 99 = .ok (.athrow, 1) := by decide +kernel
theorem dX5_move_100 : decode cX5_move 100 = .ok (.aload_n 0, 1) := by decide +kernel
theorem dX5_move_101 : decode cX5_move 101 = .ok (.invokevirtual 69, 3) := by decide +kernel
theorem dX5_move_104 : decode cX5_move 104 = .ok (.aload_n 0, 1) := by decide +kernel
theorem dX5_move_105 : decode cX5_move 105 = .ok (.iconst 1, 1) := by decide +kernel
theorem dX5_move_106 : decode cX5_move 106 = .ok (.invokevirtual 72, 3) := by decide +kernel
theorem dX5_move_109 : decode cX5_move 109 = .ok (.istore 6, 2) := by decide +kernel
theorem dX5_move_111 : decode cX5_move 111 = .ok (.aload_n 0, 1) := by decide +kernel
theorem dX5_move_112 : decode cX5_move 112 = .ok (.getfield 12, 3) := by decide +kernel
theorem dX5_move_115 : decode cX5_move 115 = .ok (.iload 6, 2) := by decide +kernel
theorem dX5_move_117 : decode cX5_move 117 = .ok (.iload 4, 2) := by decide +kernel
theorem dX5_move_119 : decode cX5_move 119 = .ok (.ifCond .eq 7, 3) := by decide +kernel
theorem dX5_move_122 : decode cX5_move 122 = .ok (.iconst 2, 1) := by decide +kernel
theorem dX5_move_123 : decode cX5_move 123 = .ok (.goto 11, 3) := by decide +kernel
theorem dX5_move_126 : decode cX5_move 126 = .ok (.aload_n 0, 1) := by decide +kernel
theorem dX5_move_127 : decode cX5_move 127 = .ok (.getfield 12, 3) := by decide +kernel
theorem dX5_move_130 : decode cX5_move 130 = .ok (.iload_n 2, 1) := by decide +kernel
theorem dX5_move_131 : decode cX5_move 131 = .ok (.invokevirtual 86, 3) := by decide +kernel
theorem dX5_move_134 : decode cX5_move 134 = .ok (.iload_n 2, 1) := by decide +kernel
theorem dX5_move_135 : decode cX5_move 135 = .ok (.iload_n 3, 1) := by decide +kernel
theorem dX5_move_136 : decode cX5_move 136 = .ok (.invokevirtual 80, 3) := by decide +kernel
theorem dX5_move_139 : decode cX5_move 139 = .ok (.aload_n 0, 1) := by decide +kernel
theorem dX5_move_140 : decode cX5_move 140 = .ok (.getfield 12, 3) := by decide +kernel
theorem dX5_move_143 : decode cX5_move 143 = .ok (.iload 6, 2) := by decide +kernel
theorem dX5_move_145 : decode cX5_move 145 = .ok (.iload_n 1, 1) := by decide +kernel
theorem dX5_move_146 : decode cX5_move 146 = .ok (.iload 4, 2) := by decide +kernel
theorem dX5_move_148 : decode cX5_move 148 = .ok (.ifCond .eq 7, 3) := by decide +kernel
theorem dX5_move_151 : decode cX5_move 151 = .ok (.iconst 0, 1) := by decide +kernel
theorem dX5_move_152 : decode cX5_move 152 = .ok (.goto 6, 3) := by decide +kernel
theorem dX5_move_155 : decode cX5_move 155 = .ok (.iconst 1, 1) := by decide +kernel
theorem dX5_move_156 : decode cX5_move 156 = .ok (.iload_n 2, 1) := by decide +kernel
theorem dX5_move_157 : decode cX5_move 157 = .ok (.ishl, 1) := by decide +kernel
theorem dX5_move_158 : decode cX5_move 158 = .ok (.invokevirtual 76, 3) := by decide +kernel
theorem dX5_move_161 : decode cX5_move 161 = .ok (.iload 6, 2) := by decide +kernel
theorem dX5_move_163 : decode cX5_move 163 = .ok (.ireturn, 1) := by decide +kernel
theorem dX5_lend_0 : decode cX5_lend 0 = .ok (.aload_n 0, 1) := by decide +kernel
theorem dX5_lend_1 : decode cX5_lend 1 = .ok (.iload_n 1, 1) := by decide +kernel
theorem dX5_lend_2 : decode cX5_lend 2 = .ok (.invokevirtual 52, 3) := by decide +kernel
theorem dX5_lend_5 : decode cX5_lend 5 = .ok (.aload_n 0, 1) := by decide +kernel
theorem dX5_lend_6 : decode cX5_lend 6 = .ok (.iload_n 2, 1) := by decide +kernel
theorem dX5_lend_7 : decode cX5_lend 7 = .ok (.invokevirtual 52, 3) := by decide +kernel
theorem dX5_lend_10 : decode cX5_lend 10 = .ok (.iload_n 3, 1) := by decide +kernel
theorem dX5_lend_11 : decode cX5_lend 11 = .ok (.iconst (-1), 1) := by decide +kernel
theorem dX5_lend_12 : decode cX5_lend 12 = .ok (.if_icmp .ne 18, 3) := by decide +kernel
theorem dX5_lend_15 : decode cX5_lend 15 = .ok (.aload_n 0, 1) := by decide +kernel
theorem dX5_lend_16 : decode cX5_lend 16 = .ok (.getfield 12, 3) := by decide +kernel
theorem dX5_lend_19 : decode cX5_lend 19 = .ok (.iload_n 2, 1) := by decide +kernel
theorem dX5_lend_20 : decode cX5_lend 20 = .ok (.invokevirtual 59, 3) := by decide +kernel
theorem dX5_lend_23 : decode cX5_lend 23 = .ok (.ifCond .ne 7, 3) := by decide +kernel
theorem dX5_lend_26 : decode cX5_lend 26 = .ok (.iconst 1, 1) := by decide +kernel
theorem dX5_lend_27 : decode cX5_lend 27 = .ok (.goto 4, 3) := by decide +kernel
theorem dX5_lend_30 : decode cX5_lend 30 = .ok (.iconst 0, 1) := by decide +kernel
theorem dX5_lend_31 : decode cX5_lend 31 = .ok (.istore 4, 2) := by decide +kernel
theorem dX5_lend_33 : decode cX5_lend 33 = .ok (.aload_n 0, 1) := by decide +kernel
theorem dX5_lend_34 : decode cX5_lend 34 = .ok (.getfield 12, 3) := by decide +kernel
theorem dX5_lend_37 : decode cX5_lend 37 = .ok (.iload_n 1, 1) := by decide +kernel
theorem dX5_lend_38 : decode cX5_lend 38 = .ok (.invokevirtual 59, 3) := by decide +kernel
theorem dX5_lend_41 : decode cX5_lend 41 = .ok (.ifCond .eq 20, 3) := by decide +kernel
theorem dX5_lend_44 : decode cX5_lend 44 = .ok (.iload 4, 2) := by decide +kernel
theorem dX5_lend_46 : decode cX5_lend 46 = .ok (.ifCond .ne 25, 3) := by decide +kernel
theorem dX5_lend_49 : decode cX5_lend 49 = .ok (.aload_n 0, 1) := by decide +kernel
theorem dX5_lend_50 : decode cX5_lend 50 = .ok (.getfield 12, 3) := by decide +kernel
theorem dX5_lend_53 : decode cX5_lend 53 = .ok (.iload_n 2, 1) := by decide +kernel
theorem dX5_lend_54 : decode cX5_lend 54 = .ok (.iload_n 3, 1) := by decide +kernel
theorem dX5_lend_55 : decode cX5_lend 55 = .ok (.invokevirtual 63, 3) := by decide +kernel
theorem dX5_lend_58 : decode cX5_lend 58 = .ok (.ifCond .ne 13, 3) := by decide +kernel
theorem dX5_lend_61 : decode cX5_lend 61 = .ok (.new 32, 3) := by decide +kernel
theorem dX5_lend_64 : decode cX5_lend 64 = .ok (.dup, 1) := by decide +kernel
theorem dX5_lend_65 : decode cX5_lend 65 = .ok (.ldc 89, 2) := by decide +kernel
theorem dX5_lend_67 : decode cX5_lend 67 = .ok (.invokespecial 36, 3) := by decide +kernel
theorem dX5_lend_70 : decode cX5_lend 70 = .ok (.athrow, 1) := by decide +kernel
theorem dX5_lend_71 : decode cX5_lend 71 = .ok (.aload_n 0, 1) := by decide +kernel
theorem dX5_lend_72 : decode cX5_lend 72 = .ok (.invokevirtual 69, 3) := by decide +kernel
theorem dX5_lend_75 : decode cX5_lend 75 = .ok (.aload_n 0, 1) := by decide +kernel
theorem dX5_lend_76 : decode cX5_lend 76 = .ok (.iconst 2, 1) := by decide +kernel
theorem dX5_lend_77 : decode cX5_lend 77 = .ok (.invokevirtual 72, 3) := by decide +kernel
theorem dX5_lend_80 : decode cX5_lend 80 = .ok (.istore 5, 2) := by decide +kernel
theorem dX5_lend_82 : decode cX5_lend 82 = .ok (.aload_n 0, 1) := by decide +kernel
theorem dX5_lend_83 : decode cX5_lend 83 = .ok (.getfield 12, 3) := by decide +kernel
theorem dX5_lend_86 : decode cX5_lend 86 = .ok (.iload 5, 2) := by decide +kernel
theorem dX5_lend_88 : decode cX5_lend 88 = .ok (.aload_n 0, 1) := by decide +kernel
theorem dX5_lend_89 : decode cX5_lend 89 = .ok (.getfield 12, 3) := by decide +kernel
theorem dX5_lend_92 : decode cX5_lend 92 = .ok (.iload_n 1, 1) := by decide +kernel
theorem dX5_lend_93 : decode cX5_lend 93 = .ok (.invokevirtual 91, 3) := by decide +kernel
theorem dX5_lend_96 : decode cX5_lend 96 = .ok (.iload_n 2, 1) := by decide +kernel
theorem dX5_lend_97 : decode cX5_lend 97 = .ok (.iload_n 3, 1) := by decide +kernel
theorem dX5_lend_98 : decode cX5_lend 98 = .ok (.invokevirtual 80, 3) := by decide +kernel
theorem dX5_lend_101 : decode cX5_lend 101 = .ok (.aload_n 0, 1) := by decide +kernel
theorem dX5_lend_102 : decode cX5_lend 102 = .ok (.getfield 12, 3) := by decide +kernel
theorem dX5_lend_105 : decode cX5_lend 105 = .ok (.iload 5, 2) := by decide +kernel
theorem dX5_lend_107 : decode cX5_lend 107 = .ok (.iload_n 1, 1) := by decide +kernel
theorem dX5_lend_108 : decode cX5_lend 108 = .ok (.iconst 0, 1) := by decide +kernel
theorem dX5_lend_109 : decode cX5_lend 109 = .ok (.invokevirtual 76, 3) := by decide +kernel
theorem dX5_lend_112 : decode cX5_lend 112 = .ok (.iload 5, 2) := by decide +kernel
theorem dX5_lend_114 : decode cX5_lend 114 = .ok (.ireturn, 1) := by decide +kernel
theorem dX5_relend_0 : decode cX5_relend 0 = .ok (.aload_n 0, 1) := by decide +kernel
theorem dX5_relend_1 : decode cX5_relend 1 = .ok (.iload_n 1, 1) := by decide +kernel
theorem dX5_relend_2 : decode cX5_relend 2 = .ok (.invokevirtual 52, 3) := by decide +kernel
theorem dX5_relend_5 : decode cX5_relend 5 = .ok (.aload_n 0, 1) := by decide +kernel
theorem dX5_relend_6 : decode cX5_relend 6 = .ok (.iload_n 2, 1) := by decide +kernel
theorem dX5_relend_7 : decode cX5_relend 7 = .ok (.invokevirtual 52, 3) := by decide +kernel
theorem dX5_relend_10 : decode cX5_relend 10 = .ok (.aload_n 0, 1) := by decide +kernel
theorem dX5_relend_11 : decode cX5_relend 11 = .ok (.getfield 12, 3) := by decide +kernel
theorem dX5_relend_14 : decode cX5_relend 14 = .ok (.iload_n 1, 1) := by decide +kernel
theorem dX5_relend_15 : decode cX5_relend 15 = .ok (.invokevirtual 59, 3) := by decide +kernel
theorem dX5_relend_18 : decode cX5_relend 18 = .ok (.ifCond .eq 19, 3) := by decide +kernel
theorem dX5_relend_21 : decode cX5_relend 21 = .ok (.aload_n 0, 1) := by decide +kernel
theorem dX5_relend_22 : decode cX5_relend 22 = .ok (.getfield 12, 3) := by decide +kernel
theorem dX5_relend_25 : decode cX5_relend 25 = .ok (.iload_n 2, 1) := by decide +kernel
theorem dX5_relend_26 : decode cX5_relend 26 = .ok (.invokevirtual 59, 3) := by decide +kernel
theorem dX5_relend_29 : decode cX5_relend 29 = .ok (.ifCond .eq 8, 3) := by decide +kernel
theorem dX5_relend_32 : decode cX5_relend 32 = .ok (.iload_n 1, 1) := by decide +kernel
theorem dX5_relend_33 : decode cX5_relend 33 = .ok (.iload_n 2, 1) := by decide +kernel
theorem dX5_relend_34 : decode cX5_relend 34 = .ok (.if_icmp .ne 13, 3) := by decide +kernel
theorem dX5_relend_37 : decode cX5_relend 37 = .ok (.new 32, 3) := by decide +kernel
theorem dX5_relend_40 : decode cX5_relend 40 = .ok (.dup, 1) := by decide +kernel
theorem dX5_relend_41 : decode cX5_relend 41 = .ok (.ldc 94, 2) := by decide +kernel
theorem dX5_relend_43 : decode cX5_relend 43 = .ok (.invokespecial 36, 3) := by decide +kernel
theorem dX5_relend_46 : decode cX5_relend 46 = .ok (.athrow, 1) := by decide +kernel
theorem dX5_relend_47 : decode cX5_relend 47 = .ok (.aload_n 0, 1) := by decide +kernel
theorem dX5_relend_48 : decode cX5_relend 48 = .ok (.getfield 12, 3) := by decide +kernel
theorem dX5_relend_51 : decode cX5_relend 51 = .ok (.getfield 55, 3) := by decide +kernel
theorem dX5_relend_54 : decode cX5_relend 54 = .ok (.iload_n 1, 1) := by decide +kernel
theorem dX5_relend_55 : decode cX5_relend 55 = .ok (.iaload, 1) := by decide +kernel
theorem dX5_relend_56 : decode cX5_relend 56 = .ok (.iconst 3, 1) := by decide +kernel
theorem dX5_relend_57 : decode cX5_relend 57 = .ok (.if_icmp .ne 26, 3) := by decide +kernel
theorem dX5_relend_60 : decode cX5_relend 60 = .ok (.aload_n 0, 1) := by decide +kernel
theorem dX5_relend_61 : decode cX5_relend 61 = .ok (.getfield 12, 3) := by decide +kernel
theorem dX5_relend_64 : decode cX5_relend 64 = .ok (.getfield 55, 3) := by decide +kernel
theorem dX5_relend_67 : decode cX5_relend 67 = .ok (.iload_n 2, 1) := by decide +kernel
theorem dX5_relend_68 : decode cX5_relend 68 = .ok (.iaload, 1) := by decide +kernel
theorem dX5_relend_69 : decode cX5_relend 69 = .ok (.iconst 3, 1) := by decide +kernel
theorem dX5_relend_70 : decode cX5_relend 70 = .ok (.if_icmp .eq 13, 3) := by decide +kernel
theorem dX5_relend_73 : decode cX5_relend 73 = .ok (.new 32, 3) := by decide +kernel
theorem dX5_relend_76 : decode cX5_relend 76 = .ok (.dup, 1) := by decide +kernel
theorem dX5_relend_77 : decode cX5_relend 77 = .ok (.ldc 96, 2) := by decide +kernel
theorem dX5_relend_79 : decode cX5_relend 79 = .ok (.invokespecial 36, 3) := by decide +kernel
theorem dX5_relend_82 : decode cX5_relend 82 = .ok (.athrow, 1) := by decide +kernel
theorem dX5_relend_83 : decode cX5_relend 83 = .ok (.aload_n 0, 1) := by decide +kernel
theorem dX5_relend_84 : decode cX5_relend 84 = .ok (.invokevirtual 69, 3) := by decide +kernel
theorem dX5_relend_87 : decode cX5_relend 87 = .ok (.aload_n 0, 1) := by decide +kernel
theorem dX5_relend_88 : decode cX5_relend 88 = .ok (.iconst 3, 1) := by decide +kernel
theorem dX5_relend_89 : decode cX5_relend 89 = .ok (.invokevirtual 72, 3) := by decide +kernel
theorem dX5_relend_92 : decode cX5_relend 92 = .ok (.istore_n 3, 1) := by decide +kernel
theorem dX5_relend_93 : decode cX5_relend 93 = .ok (.aload_n 0, 1) := by decide +kernel
theorem dX5_relend_94 : decode cX5_relend 94 = .ok (.getfield 12, 3) := by decide +kernel
theorem dX5_relend_97 : decode cX5_relend 97 = .ok (.iload_n 3, 1) := by decide +kernel
theorem dX5_relend_98 : decode cX5_relend 98 = .ok (.aload_n 0, 1) := by decide +kernel
theorem dX5_relend_99 : decode cX5_relend 99 = .ok (.getfield 12, 3) := by decide +kernel
theorem dX5_relend_102 : decode cX5_relend 102 = .ok (.iload_n 1, 1) := by decide +kernel
theorem dX5_relend_103 : decode cX5_relend 103 = .ok (.invokevirtual 91, 3) := by decide +kernel
theorem dX5_relend_106 : decode cX5_relend 106 = .ok (.iload_n 2, 1) := by decide +kernel
theorem dX5_relend_107 : decode cX5_relend 107 = .ok (.iconst 3, 1) := by decide +kernel
theorem dX5_relend_108 : decode cX5_relend 108 = .ok (.invokevirtual 80, 3) := by decide +kernel
theorem dX5_relend_111 : decode cX5_relend 111 = .ok (.aload_n 0, 1) := by decide +kernel
theorem dX5_relend_112 : decode cX5_relend 112 = .ok (.getfield 12, 3) := by decide +kernel
theorem dX5_relend_115 : decode cX5_relend 115 = .ok (.iload_n 3, 1) := by decide +kernel
theorem dX5_relend_116 : decode cX5_relend 116 = .ok (.iload_n 1, 1) := by decide +kernel
theorem dX5_relend_117 : decode cX5_relend 117 = .ok (.iconst 1, 1) := by decide +kernel
theorem dX5_relend_118 : decode cX5_relend 118 = .ok (.iload_n 2, 1) := by decide +kernel
theorem dX5_relend_119 : decode cX5_relend 119 = .ok (.ishl, 1) := by decide +kernel
theorem dX5_relend_120 : decode cX5_relend 120 = .ok (.invokevirtual 76, 3) := by decide +kernel
theorem dX5_relend_123 : decode cX5_relend 123 = .ok (.iload_n 3, 1) := by decide +kernel
theorem dX5_relend_124 : decode cX5_relend 124 = .ok (.ireturn, 1) := by decide +kernel
theorem dX5_read_0 : decode cX5_read 0 = .ok (.aload_n 0, 1) := by decide +kernel
theorem dX5_read_1 : decode cX5_read 1 = .ok (.iload_n 1, 1) := by decide +kernel
theorem dX5_read_2 : decode cX5_read 2 = .ok (.invokevirtual 52, 3) := by decide +kernel
theorem dX5_read_5 : decode cX5_read 5 = .ok (.iload_n 2, 1) := by decide +kernel
theorem dX5_read_6 : decode cX5_read 6 = .ok (.iconst 3, 1) := by decide +kernel
theorem dX5_read_7 : decode cX5_read 7 = .ok (.if_icmp .ne 18, 3) := by decide +kernel
theorem dX5_read_10 : decode cX5_read 10 = .ok (.aload_n 0, 1) := by decide +kernel
theorem dX5_read_11 : decode cX5_read 11 = .ok (.getfield 12, 3) := by decide +kernel
theorem dX5_read_14 : decode cX5_read 14 = .ok (.iload_n 1, 1) := by decide +kernel
theorem dX5_read_15 : decode cX5_read 15 = .ok (.invokevirtual 59, 3) := by decide +kernel
theorem dX5_read_18 : decode cX5_read 18 = .ok (.ifCond .eq 7, 3) := by decide +kernel
theorem dX5_read_21 : decode cX5_read 21 = .ok (.iconst 1, 1) := by decide +kernel
theorem dX5_read_22 : decode cX5_read 22 = .ok (.goto 4, 3) := by decide +kernel
theorem dX5_read_25 : decode cX5_read 25 = .ok (.iconst 0, 1) := by decide +kernel
theorem dX5_read_26 : decode cX5_read 26 = .ok (.istore_n 3, 1) := by decide +kernel
theorem dX5_read_27 : decode cX5_read 27 = .ok (.iload_n 2, 1) := by decide +kernel
theorem dX5_read_28 : decode cX5_read 28 = .ok (.iconst (-1), 1) := by decide +kernel
theorem dX5_read_29 : decode cX5_read 29 = .ok (.if_icmp .eq 29, 3) := by decide +kernel
theorem dX5_read_32 : decode cX5_read 32 = .ok (.aload_n 0, 1) := by decide +kernel
theorem dX5_read_33 : decode cX5_read 33 = .ok (.getfield 12, 3) := by decide +kernel
theorem dX5_read_36 : decode cX5_read 36 = .ok (.iload_n 1, 1) := by decide +kernel
theorem dX5_read_37 : decode cX5_read 37 = .ok (.iload_n 2, 1) := by decide +kernel
theorem dX5_read_38 : decode cX5_read 38 = .ok (.invokevirtual 63, 3) := by decide +kernel
theorem dX5_read_41 : decode cX5_read 41 = .ok (.ifCond .ne 17, 3) := by decide +kernel
theorem dX5_read_44 : decode cX5_read 44 = .ok (.iload_n 3, 1) := by decide +kernel
theorem dX5_read_45 : decode cX5_read 45 = .ok (.ifCond .ne 13, 3) := by decide +kernel
theorem dX5_read_48 : decode cX5_read 48 = .ok (.new 32, 3) := by decide +kernel
theorem dX5_read_51 : decode cX5_read 51 = .ok (.dup, 1) := by decide +kernel
theorem dX5_read_52 : decode cX5_read 52 = .ok (.ldc 98, 2) := by decide +kernel
theorem dX5_read_54 : decode cX5_read 54 = .ok (.invokespecial 36, 3) := by decide +kernel
theorem dX5_read_57 : decode cX5_read 57 = .ok (.athrow, 1) := by decide +kernel
theorem dX5_read_58 : decode cX5_read 58 = .ok (.aload_n 0, 1) := by decide +kernel
theorem dX5_read_59 : decode cX5_read 59 = .ok (.invokevirtual 69, 3) := by decide +kernel
theorem dX5_read_62 : decode cX5_read 62 = .ok (.aload_n 0, 1) := by decide +kernel
theorem dX5_read_63 : decode cX5_read 63 = .ok (.iconst 4, 1) := by decide +kernel
theorem dX5_read_64 : decode cX5_read 64 = .ok (.invokevirtual 72, 3) := by decide +kernel
theorem dX5_read_67 : decode cX5_read 67 = .ok (.istore 4, 2) := by decide +kernel
theorem dX5_read_69 : decode cX5_read 69 = .ok (.aload_n 0, 1) := by decide +kernel
theorem dX5_read_70 : decode cX5_read 70 = .ok (.getfield 12, 3) := by decide +kernel
theorem dX5_read_73 : decode cX5_read 73 = .ok (.iload 4, 2) := by decide +kernel
theorem dX5_read_75 : decode cX5_read 75 = .ok (.iconst 0, 1) := by decide +kernel
theorem dX5_read_76 : decode cX5_read 76 = .ok (.iload_n 1, 1) := by decide +kernel
theorem dX5_read_77 : decode cX5_read 77 = .ok (.iload_n 2, 1) := by decide +kernel
theorem dX5_read_78 : decode cX5_read 78 = .ok (.invokevirtual 80, 3) := by decide +kernel
theorem dX5_read_81 : decode cX5_read 81 = .ok (.iload 4, 2) := by decide +kernel
theorem dX5_read_83 : decode cX5_read 83 = .ok (.ireturn, 1) := by decide +kernel
theorem dX5_drop_0 : decode cX5_drop 0 = .ok (.aload_n 0, 1) := by decide +kernel
theorem dX5_drop_1 : decode cX5_drop 1 = .ok (.iload_n 1, 1) := by decide +kernel
theorem dX5_drop_2 : decode cX5_drop 2 = .ok (.invokevirtual 52, 3) := by decide +kernel
theorem dX5_drop_5 : decode cX5_drop 5 = .ok (.aload_n 0, 1) := by decide +kernel
theorem dX5_drop_6 : decode cX5_drop 6 = .ok (.invokevirtual 69, 3) := by decide +kernel
theorem dX5_drop_9 : decode cX5_drop 9 = .ok (.aload_n 0, 1) := by decide +kernel
theorem dX5_drop_10 : decode cX5_drop 10 = .ok (.iconst 5, 1) := by decide +kernel
theorem dX5_drop_11 : decode cX5_drop 11 = .ok (.invokevirtual 72, 3) := by decide +kernel
theorem dX5_drop_14 : decode cX5_drop 14 = .ok (.istore_n 2, 1) := by decide +kernel
theorem dX5_drop_15 : decode cX5_drop 15 = .ok (.aload_n 0, 1) := by decide +kernel
theorem dX5_drop_16 : decode cX5_drop 16 = .ok (.getfield 12, 3) := by decide +kernel
theorem dX5_drop_19 : decode cX5_drop 19 = .ok (.iload_n 2, 1) := by decide +kernel
theorem dX5_drop_20 : decode cX5_drop 20 = .ok (.iconst 3, 1) := by decide +kernel
theorem dX5_drop_21 : decode cX5_drop 21 = .ok (.iload_n 1, 1) := by decide +kernel
theorem dX5_drop_22 : decode cX5_drop 22 = .ok (.iconst (-1), 1) := by decide +kernel
theorem dX5_drop_23 : decode cX5_drop 23 = .ok (.invokevirtual 80, 3) := by decide +kernel
theorem dX5_drop_26 : decode cX5_drop 26 = .ok (.iload_n 2, 1) := by decide +kernel
theorem dX5_drop_27 : decode cX5_drop 27 = .ok (.ireturn, 1) := by decide +kernel
theorem dX5_call_0 : decode cX5_call 0 = .ok (.aload_n 0, 1) := by decide +kernel
theorem dX5_call_1 : decode cX5_call 1 = .ok (.iload_n 1, 1) := by decide +kernel
theorem dX5_call_2 : decode cX5_call 2 = .ok (.invokevirtual 52, 3) := by decide +kernel
theorem dX5_call_5 : decode cX5_call 5 = .ok (.aload_n 0, 1) := by decide +kernel
theorem dX5_call_6 : decode cX5_call 6 = .ok (.iload_n 2, 1) := by decide +kernel
theorem dX5_call_7 : decode cX5_call 7 = .ok (.invokevirtual 100, 3) := by decide +kernel
theorem dX5_call_10 : decode cX5_call 10 = .ok (.aload_n 0, 1) := by decide +kernel
theorem dX5_call_11 : decode cX5_call 11 = .ok (.iload_n 3, 1) := by decide +kernel
theorem dX5_call_12 : decode cX5_call 12 = .ok (.invokevirtual 100, 3) := by decide +kernel
theorem dX5_call_15 : decode cX5_call 15 = .ok (.iload 4, 2) := by decide +kernel
theorem dX5_call_17 : decode cX5_call 17 = .ok (.ifCond .lt 9, 3) := by decide +kernel
theorem dX5_call_20 : decode cX5_call 20 = .ok (.iload 4, 2) := by decide +kernel
theorem dX5_call_22 : decode cX5_call 22 = .ok (.iconst 3, 1) := by decide +kernel
theorem dX5_call_23 : decode cX5_call 23 = .ok (.if_icmp .le 13, 3) := by decide +kernel
theorem dX5_call_26 : decode cX5_call 26 = .ok (.new 32, 3) := by decide +kernel
theorem dX5_call_29 : decode cX5_call 29 = .ok (.dup, 1) := by decide +kernel
theorem dX5_call_30 : decode cX5_call 30 = .ok (.ldc 103, 2) := by decide +kernel
theorem dX5_call_32 : decode cX5_call 32 = .ok (.invokespecial 36, 3) := by decide +kernel
theorem dX5_call_35 : decode cX5_call 35 = .ok (.athrow, 1) := by decide +kernel
theorem dX5_call_36 : decode cX5_call 36 = .ok (.iload_n 2, 1) := by decide +kernel
theorem dX5_call_37 : decode cX5_call 37 = .ok (.iload_n 3, 1) := by decide +kernel
theorem dX5_call_38 : decode cX5_call 38 = .ok (.if_icmp .ne 18, 3) := by decide +kernel
theorem dX5_call_41 : decode cX5_call 41 = .ok (.iload_n 2, 1) := by decide +kernel
theorem dX5_call_42 : decode cX5_call 42 = .ok (.iconst (-1), 1) := by decide +kernel
theorem dX5_call_43 : decode cX5_call 43 = .ok (.if_icmp .eq 13, 3) := by decide +kernel
theorem dX5_call_46 : decode cX5_call 46 = .ok (.new 32, 3) := by decide +kernel
theorem dX5_call_49 : decode cX5_call 49 = .ok (.dup, 1) := by decide +kernel
theorem dX5_call_50 : decode cX5_call 50 = .ok (.ldc 105, 2) := by decide +kernel
theorem dX5_call_52 : decode cX5_call 52 = .ok (.invokespecial 36, 3) := by decide +kernel
theorem dX5_call_55 : decode cX5_call 55 = .ok (.athrow, 1) := by decide +kernel
theorem dX5_call_56 : decode cX5_call 56 = .ok (.aload_n 0, 1) := by decide +kernel
theorem dX5_call_57 : decode cX5_call 57 = .ok (.invokevirtual 69, 3) := by decide +kernel
theorem dX5_call_60 : decode cX5_call 60 = .ok (.aload_n 0, 1) := by decide +kernel
theorem dX5_call_61 : decode cX5_call 61 = .ok (.bipush 6, 2) := by decide +kernel
theorem dX5_call_63 : decode cX5_call 63 = .ok (.invokevirtual 72, 3) := by decide +kernel
theorem dX5_call_66 : decode cX5_call 66 = .ok (.istore 5, 2) := by decide +kernel
theorem dX5_call_68 : decode cX5_call 68 = .ok (.iconst 0, 1) := by decide +kernel
theorem dX5_call_69 : decode cX5_call 69 = .ok (.istore 6, 2) := by decide +kernel
theorem dX5_call_71 : decode cX5_call 71 = .ok (.iload_n 2, 1) := by decide +kernel
theorem dX5_call_72 : decode cX5_call 72 = .ok (.iconst (-1), 1) := by decide +kernel
theorem dX5_call_73 : decode cX5_call 73 = .ok (.if_icmp .eq 41, 3) := by decide +kernel
theorem dX5_call_76 : decode cX5_call 76 = .ok (.aload_n 0, 1) := by decide +kernel
theorem dX5_call_77 : decode cX5_call 77 = .ok (.getfield 12, 3) := by decide +kernel
theorem dX5_call_80 : decode cX5_call 80 = .ok (.iload 5, 2) := by decide +kernel
theorem dX5_call_82 : decode cX5_call 82 = .ok (.aload_n 0, 1) := by decide +kernel
theorem dX5_call_83 : decode cX5_call 83 = .ok (.getfield 12, 3) := by decide +kernel
theorem dX5_call_86 : decode cX5_call 86 = .ok (.iload_n 2, 1) := by decide +kernel
theorem dX5_call_87 : decode cX5_call 87 = .ok (.invokevirtual 86, 3) := by decide +kernel
theorem dX5_call_90 : decode cX5_call 90 = .ok (.iload_n 2, 1) := by decide +kernel
theorem dX5_call_91 : decode cX5_call 91 = .ok (.iconst (-1), 1) := by decide +kernel
theorem dX5_call_92 : decode cX5_call 92 = .ok (.invokevirtual 80, 3) := by decide +kernel
theorem dX5_call_95 : decode cX5_call 95 = .ok (.iload 6, 2) := by decide +kernel
theorem dX5_call_97 : decode cX5_call 97 = .ok (.iload 4, 2) := by decide +kernel
theorem dX5_call_99 : decode cX5_call 99 = .ok (.iconst 1, 1) := by decide +kernel
theorem dX5_call_100 : decode cX5_call 100 = .ok (.iand, 1) := by decide +kernel
theorem dX5_call_101 : decode cX5_call 101 = .ok (.ifCond .eq 9, 3) := by decide +kernel
theorem dX5_call_104 : decode cX5_call 104 = .ok (.iconst 1, 1) := by decide +kernel
theorem dX5_call_105 : decode cX5_call 105 = .ok (.iload_n 2, 1) := by decide +kernel
theorem dX5_call_106 : decode cX5_call 106 = .ok (.ishl, 1) := by decide +kernel
theorem dX5_call_107 : decode cX5_call 107 = .ok (.goto 4, 3) := by decide +kernel
theorem dX5_call_110 : decode cX5_call 110 = .ok (.iconst 0, 1) := by decide +kernel
theorem dX5_call_111 : decode cX5_call 111 = .ok (.ior, 1) := by decide +kernel
theorem dX5_call_112 : decode cX5_call 112 = .ok (.istore 6, 2) := by decide +kernel
theorem dX5_call_114 : decode cX5_call 114 = .ok (.iload_n 3, 1) := by decide +kernel
theorem dX5_call_115 : decode cX5_call 115 = .ok (.iconst (-1), 1) := by decide +kernel
theorem dX5_call_116 : decode cX5_call 116 = .ok (.if_icmp .eq 41, 3) := by decide +kernel
theorem dX5_call_119 : decode cX5_call 119 = .ok (.aload_n 0, 1) := by decide +kernel
theorem dX5_call_120 : decode cX5_call 120 = .ok (.getfield 12, 3) := by decide +kernel
theorem dX5_call_123 : decode cX5_call 123 = .ok (.iload 5, 2) := by decide +kernel
theorem dX5_call_125 : decode cX5_call 125 = .ok (.aload_n 0, 1) := by decide +kernel
theorem dX5_call_126 : decode cX5_call 126 = .ok (.getfield 12, 3) := by decide +kernel
theorem dX5_call_129 : decode cX5_call 129 = .ok (.iload_n 3, 1) := by decide +kernel
theorem dX5_call_130 : decode cX5_call 130 = .ok (.invokevirtual 86, 3) := by decide +kernel
theorem dX5_call_133 : decode cX5_call 133 = .ok (.iload_n 3, 1) := by decide +kernel
theorem dX5_call_134 : decode cX5_call 134 = .ok (.iconst (-1), 1) := by decide +kernel
theorem dX5_call_135 : decode cX5_call 135 = .ok (.invokevirtual 80, 3) := by decide +kernel
theorem dX5_call_138 : decode cX5_call 138 = .ok (.iload 6, 2) := by decide +kernel
theorem dX5_call_140 : decode cX5_call 140 = .ok (.iload 4, 2) := by decide +kernel
theorem dX5_call_142 : decode cX5_call 142 = .ok (.iconst 2, 1) := by decide +kernel
theorem dX5_call_143 : decode cX5_call 143 = .ok (.iand, 1) := by decide +kernel
theorem dX5_call_144 : decode cX5_call 144 = .ok (.ifCond .eq 9, 3) := by decide +kernel
theorem dX5_call_147 : decode cX5_call 147 = .ok (.iconst 1, 1) := by decide +kernel
theorem dX5_call_148 : decode cX5_call 148 = .ok (.iload_n 3, 1) := by decide +kernel
theorem dX5_call_149 : decode cX5_call 149 = .ok (.ishl, 1) := by decide +kernel
theorem dX5_call_150 : decode cX5_call 150 = .ok (.goto 4, 3) := by decide +kernel
theorem dX5_call_153 : decode cX5_call 153 = .ok (.iconst 0, 1) := by decide +kernel
theorem dX5_call_154 : decode cX5_call 154 = .ok (.ior, 1) := by decide +kernel
theorem dX5_call_155 : decode cX5_call 155 = .ok (.istore 6, 2) := by decide +kernel
theorem dX5_call_157 : decode cX5_call 157 = .ok (.aload_n 0, 1) := by decide +kernel
theorem dX5_call_158 : decode cX5_call 158 = .ok (.getfield 12, 3) := by decide +kernel
theorem dX5_call_161 : decode cX5_call 161 = .ok (.iload 5, 2) := by decide +kernel
theorem dX5_call_163 : decode cX5_call 163 = .ok (.iload_n 1, 1) := by decide +kernel
theorem dX5_call_164 : decode cX5_call 164 = .ok (.iload 6, 2) := by decide +kernel
theorem dX5_call_166 : decode cX5_call 166 = .ok (.invokevirtual 76, 3) := by decide +kernel
theorem dX5_call_169 : decode cX5_call 169 = .ok (.iload 5, 2) := by decide +kernel
theorem dX5_call_171 : decode cX5_call 171 = .ok (.ireturn, 1) := by decide +kernel
theorem dX5_branch_0 : decode cX5_branch 0 = .ok (.aload_n 0, 1) := by decide +kernel
theorem dX5_branch_1 : decode cX5_branch 1 = .ok (.iload_n 2, 1) := by decide +kernel
theorem dX5_branch_2 : decode cX5_branch 2 = .ok (.invokevirtual 107, 3) := by decide +kernel
theorem dX5_branch_5 : decode cX5_branch 5 = .ok (.aload_n 0, 1) := by decide +kernel
theorem dX5_branch_6 : decode cX5_branch 6 = .ok (.invokevirtual 69, 3) := by decide +kernel
theorem dX5_branch_9 : decode cX5_branch 9 = .ok (.aload_n 0, 1) := by decide +kernel
theorem dX5_branch_10 : decode cX5_branch 10 = .ok (.iload_n 1, 1) := by decide +kernel
theorem dX5_branch_11 : decode cX5_branch 11 = .ok (.ifCond .eq 8, 3) := by decide +kernel
theorem dX5_branch_14 : decode cX5_branch 14 = .ok (.bipush 8, 2) := by decide +kernel
theorem dX5_branch_16 : decode cX5_branch 16 = .ok (.goto 5, 3) := by decide +kernel
theorem dX5_branch_19 : decode cX5_branch 19 = .ok (.bipush 7, 2) := by decide +kernel
theorem dX5_branch_21 : decode cX5_branch 21 = .ok (.invokevirtual 72, 3) := by decide +kernel
theorem dX5_branch_24 : decode cX5_branch 24 = .ok (.istore_n 3, 1) := by decide +kernel
theorem dX5_branch_25 : decode cX5_branch 25 = .ok (.aload_n 0, 1) := by decide +kernel
theorem dX5_branch_26 : decode cX5_branch 26 = .ok (.getfield 12, 3) := by decide +kernel
theorem dX5_branch_29 : decode cX5_branch 29 = .ok (.getfield 110, 3) := by decide +kernel
theorem dX5_branch_32 : decode cX5_branch 32 = .ok (.iload_n 3, 1) := by decide +kernel
theorem dX5_branch_33 : decode cX5_branch 33 = .ok (.iload_n 2, 1) := by decide +kernel
theorem dX5_branch_34 : decode cX5_branch 34 = .ok (.iastore, 1) := by decide +kernel
theorem dX5_branch_35 : decode cX5_branch 35 = .ok (.iload_n 3, 1) := by decide +kernel
theorem dX5_branch_36 : decode cX5_branch 36 = .ok (.ireturn, 1) := by decide +kernel
theorem dX5_finish_0 : decode cX5_finish 0 = .ok (.aload_n 0, 1) := by decide +kernel
theorem dX5_finish_1 : decode cX5_finish 1 = .ok (.iload_n 1, 1) := by decide +kernel
theorem dX5_finish_2 : decode cX5_finish 2 = .ok (.invokevirtual 100, 3) := by decide +kernel
theorem dX5_finish_5 : decode cX5_finish 5 = .ok (.aload_n 0, 1) := by decide +kernel
theorem dX5_finish_6 : decode cX5_finish 6 = .ok (.invokevirtual 69, 3) := by decide +kernel
theorem dX5_finish_9 : decode cX5_finish 9 = .ok (.aload_n 0, 1) := by decide +kernel
theorem dX5_finish_10 : decode cX5_finish 10 = .ok (.bipush 9, 2) := by decide +kernel
theorem dX5_finish_12 : decode cX5_finish 12 = .ok (.invokevirtual 72, 3) := by decide +kernel
theorem dX5_finish_15 : decode cX5_finish 15 = .ok (.istore_n 2, 1) := by decide +kernel
theorem dX5_finish_16 : decode cX5_finish 16 = .ok (.iload_n 1, 1) := by decide +kernel
theorem dX5_finish_17 : decode cX5_finish 17 = .ok (.iconst (-1), 1) := by decide +kernel
theorem dX5_finish_18 : decode cX5_finish 18 = .ok (.if_icmp .eq 21, 3) := by decide +kernel
theorem dX5_finish_21 : decode cX5_finish 21 = .ok (.aload_n 0, 1) := by decide +kernel
theorem dX5_finish_22 : decode cX5_finish 22 = .ok (.getfield 12, 3) := by decide +kernel
theorem dX5_finish_25 : decode cX5_finish 25 = .ok (.iload_n 2, 1) := by decide +kernel
theorem dX5_finish_26 : decode cX5_finish 26 = .ok (.aload_n 0, 1) := by decide +kernel
theorem dX5_finish_27 : decode cX5_finish 27 = .ok (.getfield 12, 3) := by decide +kernel
theorem dX5_finish_30 : decode cX5_finish 30 = .ok (.iload_n 1, 1) := by decide +kernel
theorem dX5_finish_31 : decode cX5_finish 31 = .ok (.invokevirtual 86, 3) := by decide +kernel
theorem dX5_finish_34 : decode cX5_finish 34 = .ok (.iload_n 1, 1) := by decide +kernel
theorem dX5_finish_35 : decode cX5_finish 35 = .ok (.iconst (-1), 1) := by decide +kernel
theorem dX5_finish_36 : decode cX5_finish 36 = .ok (.invokevirtual 80, 3) := by decide +kernel
theorem dX5_finish_39 : decode cX5_finish 39 = .ok (.iload_n 2, 1) := by decide +kernel
theorem dX5_finish_40 : decode cX5_finish 40 = .ok (.ireturn, 1) := by decide +kernel
theorem dX5_undo_0 : decode cX5_undo 0 = .ok (.aload_n 0, 1) := by decide +kernel
theorem dX5_undo_1 : decode cX5_undo 1 = .ok (.getfield 12, 3) := by decide +kernel
theorem dX5_undo_4 : decode cX5_undo 4 = .ok (.getfield 121, 3) := by decide +kernel
theorem dX5_undo_7 : decode cX5_undo 7 = .ok (.ifCond .gt 13, 3) := by decide +kernel
theorem dX5_undo_10 : decode cX5_undo 10 = .ok (.new 43, 3) := by decide +kernel
theorem dX5_undo_13 : decode cX5_undo 13 = .ok (.dup, 1) := by decide +kernel
theorem dX5_undo_14 : decode cX5_undo 14 = .ok (.ldc 124, 2) := by decide +kernel
theorem dX5_undo_16 : decode cX5_undo 16 = .ok (.invokespecial 47, 3) := by decide +kernel
theorem dX5_undo_19 : decode cX5_undo 19 = .ok (.athrow, 1) := by decide +kernel
theorem dX5_undo_20 : decode cX5_undo 20 = .ok (.aload_n 0, 1) := by decide +kernel
theorem dX5_undo_21 : decode cX5_undo 21 = .ok (.iconst 0, 1) := by decide +kernel
theorem dX5_undo_22 : decode cX5_undo 22 = .ok (.putfield 28, 3) := by decide +kernel
theorem dX5_undo_25 : decode cX5_undo 25 = .ok (.aload_n 0, 1) := by decide +kernel
theorem dX5_undo_26 : decode cX5_undo 26 = .ok (.getfield 12, 3) := by decide +kernel
theorem dX5_undo_29 : decode cX5_undo 29 = .ok (.dup, 1) := by decide +kernel
theorem dX5_undo_30 : decode cX5_undo 30 = .ok (.getfield 121, 3) := by decide +kernel
theorem dX5_undo_33 : decode cX5_undo 33 = .ok (.iconst 1, 1) := by decide +kernel
theorem dX5_undo_34 : decode cX5_undo 34 = .ok (.isub, 1) := by decide +kernel
theorem dX5_undo_35 : decode cX5_undo 35 = .ok (.putfield 121, 3) := by decide +kernel
theorem dX5_undo_38 : decode cX5_undo 38 = .ok (.aload_n 0, 1) := by decide +kernel
theorem dX5_undo_39 : decode cX5_undo 39 = .ok (.getfield 12, 3) := by decide +kernel
theorem dX5_undo_42 : decode cX5_undo 42 = .ok (.getfield 121, 3) := by decide +kernel
theorem dX5_undo_45 : decode cX5_undo 45 = .ok (.ireturn, 1) := by decide +kernel
theorem dX5_statements_0 : decode cX5_statements 0 = .ok (.aload_n 0, 1) := by decide +kernel
theorem dX5_statements_1 : decode cX5_statements 1 = .ok (.getfield 12, 3) := by decide +kernel
theorem dX5_statements_4 : decode cX5_statements 4 = .ok (.getfield 121, 3) := by decide +kernel
theorem dX5_statements_7 : decode cX5_statements 7 = .ok (.ireturn, 1) := by decide +kernel
theorem dX5_codeOf_0 : decode cX5_codeOf 0 = .ok (.aload_n 0, 1) := by decide +kernel
theorem dX5_codeOf_1 : decode cX5_codeOf 1 = .ok (.iload_n 1, 1) := by decide +kernel
theorem dX5_codeOf_2 : decode cX5_codeOf 2 = .ok (.invokevirtual 113, 3) := by decide +kernel
theorem dX5_codeOf_5 : decode cX5_codeOf 5 = .ok (.aload_n 0, 1) := by decide +kernel
theorem dX5_codeOf_6 : decode cX5_codeOf 6 = .ok (.getfield 12, 3) := by decide +kernel
theorem dX5_codeOf_9 : decode cX5_codeOf 9 = .ok (.getfield 126, 3) := by decide +kernel
theorem dX5_codeOf_12 : decode cX5_codeOf 12 = .ok (.iload_n 1, 1) := by decide +kernel
theorem dX5_codeOf_13 : decode cX5_codeOf 13 = .ok (.iaload, 1) := by decide +kernel
theorem dX5_codeOf_14 : decode cX5_codeOf 14 = .ok (.ireturn, 1) := by decide +kernel
theorem dX5_isReached_0 : decode cX5_isReached 0 = .ok (.aload_n 0, 1) := by decide +kernel
theorem dX5_isReached_1 : decode cX5_isReached 1 = .ok (.iload_n 1, 1) := by decide +kernel
theorem dX5_isReached_2 : decode cX5_isReached 2 = .ok (.invokevirtual 113, 3) := by decide +kernel
theorem dX5_isReached_5 : decode cX5_isReached 5 = .ok (.aload_n 0, 1) := by decide +kernel
theorem dX5_isReached_6 : decode cX5_isReached 6 = .ok (.invokevirtual 129, 3) := by decide +kernel
theorem dX5_isReached_9 : decode cX5_isReached 9 = .ok (.getfield 133, 3) := by decide +kernel
theorem dX5_isReached_12 : decode cX5_isReached 12 = .ok (.iload_n 1, 1) := by decide +kernel
theorem dX5_isReached_13 : decode cX5_isReached 13 = .ok (.invokevirtual 137, 3) := by decide +kernel
theorem dX5_isReached_16 : decode cX5_isReached 16 = .ok (.ireturn, 1) := by decide +kernel
theorem dX5_canBe_0 : decode cX5_canBe 0 = .ok (.aload_n 0, 1) := by decide +kernel
theorem dX5_canBe_1 : decode cX5_canBe 1 = .ok (.iload_n 1, 1) := by decide +kernel
theorem dX5_canBe_2 : decode cX5_canBe 2 = .ok (.invokevirtual 113, 3) := by decide +kernel
theorem dX5_canBe_5 : decode cX5_canBe 5 = .ok (.aload_n 0, 1) := by decide +kernel
theorem dX5_canBe_6 : decode cX5_canBe 6 = .ok (.iload_n 2, 1) := by decide +kernel
theorem dX5_canBe_7 : decode cX5_canBe 7 = .ok (.invokevirtual 52, 3) := by decide +kernel
theorem dX5_canBe_10 : decode cX5_canBe 10 = .ok (.iload_n 3, 1) := by decide +kernel
theorem dX5_canBe_11 : decode cX5_canBe 11 = .ok (.iconst (-1), 1) := by decide +kernel
theorem dX5_canBe_12 : decode cX5_canBe 12 = .ok (.if_icmp .eq 25, 3) := by decide +kernel
theorem dX5_canBe_15 : decode cX5_canBe 15 = .ok (.aload_n 0, 1) := by decide +kernel
theorem dX5_canBe_16 : decode cX5_canBe 16 = .ok (.getfield 12, 3) := by decide +kernel
theorem dX5_canBe_19 : decode cX5_canBe 19 = .ok (.iload_n 2, 1) := by decide +kernel
theorem dX5_canBe_20 : decode cX5_canBe 20 = .ok (.iload_n 3, 1) := by decide +kernel
theorem dX5_canBe_21 : decode cX5_canBe 21 = .ok (.invokevirtual 63, 3) := by decide +kernel
theorem dX5_canBe_24 : decode cX5_canBe 24 = .ok (.ifCond .ne 13, 3) := by decide +kernel
theorem dX5_canBe_27 : decode cX5_canBe 27 = .ok (.new 32, 3) := by decide +kernel
theorem dX5_canBe_30 : decode cX5_canBe 30 = .ok (.dup, 1) := by decide +kernel
theorem dX5_canBe_31 : decode cX5_canBe 31 = .ok (.ldc 142, 2) := by decide +kernel
theorem dX5_canBe_33 : decode cX5_canBe 33 = .ok (.invokespecial 36, 3) := by decide +kernel
theorem dX5_canBe_36 : decode cX5_canBe 36 = .ok (.athrow, 1) := by decide +kernel
theorem dX5_canBe_37 : decode cX5_canBe 37 = .ok (.aload_n 0, 1) := by decide +kernel
theorem dX5_canBe_38 : decode cX5_canBe 38 = .ok (.invokevirtual 129, 3) := by decide +kernel
theorem dX5_canBe_41 : decode cX5_canBe 41 = .ok (.getfield 133, 3) := by decide +kernel
theorem dX5_canBe_44 : decode cX5_canBe 44 = .ok (.iload_n 1, 1) := by decide +kernel
theorem dX5_canBe_45 : decode cX5_canBe 45 = .ok (.aload_n 0, 1) := by decide +kernel
theorem dX5_canBe_46 : decode cX5_canBe 46 = .ok (.getfield 12, 3) := by decide +kernel
theorem dX5_canBe_49 : decode cX5_canBe 49 = .ok (.iload_n 2, 1) := by decide +kernel
theorem dX5_canBe_50 : decode cX5_canBe 50 = .ok (.iload_n 3, 1) := by decide +kernel
theorem dX5_canBe_51 : decode cX5_canBe 51 = .ok (.invokevirtual 144, 3) := by decide +kernel
theorem dX5_canBe_54 : decode cX5_canBe 54 = .ok (.invokevirtual 148, 3) := by decide +kernel
theorem dX5_canBe_57 : decode cX5_canBe 57 = .ok (.ireturn, 1) := by decide +kernel
theorem dX5_holds_0 : decode cX5_holds 0 = .ok (.aload_n 0, 1) := by decide +kernel
theorem dX5_holds_1 : decode cX5_holds 1 = .ok (.iload_n 1, 1) := by decide +kernel
theorem dX5_holds_2 : decode cX5_holds 2 = .ok (.invokevirtual 113, 3) := by decide +kernel
theorem dX5_holds_5 : decode cX5_holds 5 = .ok (.aload_n 0, 1) := by decide +kernel
theorem dX5_holds_6 : decode cX5_holds 6 = .ok (.iload_n 2, 1) := by decide +kernel
theorem dX5_holds_7 : decode cX5_holds 7 = .ok (.invokevirtual 52, 3) := by decide +kernel
theorem dX5_holds_10 : decode cX5_holds 10 = .ok (.aload_n 0, 1) := by decide +kernel
theorem dX5_holds_11 : decode cX5_holds 11 = .ok (.invokevirtual 129, 3) := by decide +kernel
theorem dX5_holds_14 : decode cX5_holds 14 = .ok (.getfield 133, 3) := by decide +kernel
theorem dX5_holds_17 : decode cX5_holds 17 = .ok (.iload_n 1, 1) := by decide +kernel
theorem dX5_holds_18 : decode cX5_holds 18 = .ok (.iload_n 2, 1) := by decide +kernel
theorem dX5_holds_19 : decode cX5_holds 19 = .ok (.invokevirtual 152, 3) := by decide +kernel
theorem dX5_holds_22 : decode cX5_holds 22 = .ok (.invokestatic 155, 3) := by decide +kernel
theorem dX5_holds_25 : decode cX5_holds 25 = .ok (.ireturn, 1) := by decide +kernel
theorem dX5_canHold_0 : decode cX5_canHold 0 = .ok (.aload_n 0, 1) := by decide +kernel
theorem dX5_canHold_1 : decode cX5_canHold 1 = .ok (.iload_n 1, 1) := by decide +kernel
theorem dX5_canHold_2 : decode cX5_canHold 2 = .ok (.invokevirtual 113, 3) := by decide +kernel
theorem dX5_canHold_5 : decode cX5_canHold 5 = .ok (.aload_n 0, 1) := by decide +kernel
theorem dX5_canHold_6 : decode cX5_canHold 6 = .ok (.iload_n 2, 1) := by decide +kernel
theorem dX5_canHold_7 : decode cX5_canHold 7 = .ok (.invokevirtual 52, 3) := by decide +kernel
theorem dX5_canHold_10 : decode cX5_canHold 10 = .ok (.aload_n 0, 1) := by decide +kernel
theorem dX5_canHold_11 : decode cX5_canHold 11 = .ok (.getfield 12, 3) := by decide +kernel
theorem dX5_canHold_14 : decode cX5_canHold 14 = .ok (.iload_n 3, 1) := by decide +kernel
theorem dX5_canHold_15 : decode cX5_canHold 15 = .ok (.invokevirtual 161, 3) := by decide +kernel
theorem dX5_canHold_18 : decode cX5_canHold 18 = .ok (.ifCond .eq 26, 3) := by decide +kernel
theorem dX5_canHold_21 : decode cX5_canHold 21 = .ok (.aload_n 0, 1) := by decide +kernel
theorem dX5_canHold_22 : decode cX5_canHold 22 = .ok (.invokevirtual 129, 3) := by decide +kernel
theorem dX5_canHold_25 : decode cX5_canHold 25 = .ok (.getfield 133, 3) := by decide +kernel
theorem dX5_canHold_28 : decode cX5_canHold 28 = .ok (.iload_n 1, 1) := by decide +kernel
theorem dX5_canHold_29 : decode cX5_canHold 29 = .ok (.iload_n 2, 1) := by decide +kernel
theorem dX5_canHold_30 : decode cX5_canHold 30 = .ok (.invokevirtual 152, 3) := by decide +kernel
theorem dX5_canHold_33 : decode cX5_canHold 33 = .ok (.iload_n 3, 1) := by decide +kernel
theorem dX5_canHold_34 : decode cX5_canHold 34 = .ok (.invokestatic 164, 3) := by decide +kernel
theorem dX5_canHold_37 : decode cX5_canHold 37 = .ok (.ifCond .eq 7, 3) := by decide +kernel
theorem dX5_canHold_40 : decode cX5_canHold 40 = .ok (.iconst 1, 1) := by decide +kernel
theorem dX5_canHold_41 : decode cX5_canHold 41 = .ok (.goto 4, 3) := by decide +kernel
theorem dX5_canHold_44 : decode cX5_canHold 44 = .ok (.iconst 0, 1) := by decide +kernel
theorem dX5_canHold_45 : decode cX5_canHold 45 = .ok (.ireturn, 1) := by decide +kernel
theorem dX5_awaited_0 : decode cX5_awaited 0 = .ok (.aload_n 0, 1) := by decide +kernel
theorem dX5_awaited_1 : decode cX5_awaited 1 = .ok (.iload_n 1, 1) := by decide +kernel
theorem dX5_awaited_2 : decode cX5_awaited 2 = .ok (.invokevirtual 113, 3) := by decide +kernel
theorem dX5_awaited_5 : decode cX5_awaited 5 = .ok (.aload_n 0, 1) := by decide +kernel
theorem dX5_awaited_6 : decode cX5_awaited 6 = .ok (.invokevirtual 129, 3) := by decide +kernel
theorem dX5_awaited_9 : decode cX5_awaited 9 = .ok (.getfield 133, 3) := by decide +kernel
theorem dX5_awaited_12 : decode cX5_awaited 12 = .ok (.getfield 168, 3) := by decide +kernel
theorem dX5_awaited_15 : decode cX5_awaited 15 = .ok (.iload_n 1, 1) := by decide +kernel
theorem dX5_awaited_16 : decode cX5_awaited 16 = .ok (.iaload, 1) := by decide +kernel
theorem dX5_awaited_17 : decode cX5_awaited 17 = .ok (.ireturn, 1) := by decide +kernel
theorem dX5_loans_0 : decode cX5_loans 0 = .ok (.aload_n 0, 1) := by decide +kernel
theorem dX5_loans_1 : decode cX5_loans 1 = .ok (.invokevirtual 129, 3) := by decide +kernel
theorem dX5_loans_4 : decode cX5_loans 4 = .ok (.aload_n 0, 1) := by decide +kernel
theorem dX5_loans_5 : decode cX5_loans 5 = .ok (.getfield 12, 3) := by decide +kernel
theorem dX5_loans_8 : decode cX5_loans 8 = .ok (.invokevirtual 171, 3) := by decide +kernel
theorem dX5_loans_11 : decode cX5_loans 11 = .ok (.ireturn, 1) := by decide +kernel
theorem dX5_isLive_0 : decode cX5_isLive 0 = .ok (.aload_n 0, 1) := by decide +kernel
theorem dX5_isLive_1 : decode cX5_isLive 1 = .ok (.iload_n 2, 1) := by decide +kernel
theorem dX5_isLive_2 : decode cX5_isLive 2 = .ok (.invokevirtual 113, 3) := by decide +kernel
theorem dX5_isLive_5 : decode cX5_isLive 5 = .ok (.aload_n 0, 1) := by decide +kernel
theorem dX5_isLive_6 : decode cX5_isLive 6 = .ok (.getfield 12, 3) := by decide +kernel
theorem dX5_isLive_9 : decode cX5_isLive 9 = .ok (.iload_n 1, 1) := by decide +kernel
theorem dX5_isLive_10 : decode cX5_isLive 10 = .ok (.invokevirtual 161, 3) := by decide +kernel
theorem dX5_isLive_13 : decode cX5_isLive 13 = .ok (.ifCond .eq 26, 3) := by decide +kernel
theorem dX5_isLive_16 : decode cX5_isLive 16 = .ok (.aload_n 0, 1) := by decide +kernel
theorem dX5_isLive_17 : decode cX5_isLive 17 = .ok (.invokevirtual 129, 3) := by decide +kernel
theorem dX5_isLive_20 : decode cX5_isLive 20 = .ok (.getfield 133, 3) := by decide +kernel
theorem dX5_isLive_23 : decode cX5_isLive 23 = .ok (.getfield 175, 3) := by decide +kernel
theorem dX5_isLive_26 : decode cX5_isLive 26 = .ok (.iload_n 2, 1) := by decide +kernel
theorem dX5_isLive_27 : decode cX5_isLive 27 = .ok (.laload, 1) := by decide +kernel
theorem dX5_isLive_28 : decode cX5_isLive 28 = .ok (.iload_n 1, 1) := by decide +kernel
theorem dX5_isLive_29 : decode cX5_isLive 29 = .ok (.invokestatic 164, 3) := by decide +kernel
theorem dX5_isLive_32 : decode cX5_isLive 32 = .ok (.ifCond .eq 7, 3) := by decide +kernel
theorem dX5_isLive_35 : decode cX5_isLive 35 = .ok (.iconst 1, 1) := by decide +kernel
theorem dX5_isLive_36 : decode cX5_isLive 36 = .ok (.goto 4, 3) := by decide +kernel
theorem dX5_isLive_39 : decode cX5_isLive 39 = .ok (.iconst 0, 1) := by decide +kernel
theorem dX5_isLive_40 : decode cX5_isLive 40 = .ok (.ireturn, 1) := by decide +kernel
theorem dX5_region_0 : decode cX5_region 0 = .ok (.aload_n 0, 1) := by decide +kernel
theorem dX5_region_1 : decode cX5_region 1 = .ok (.invokevirtual 129, 3) := by decide +kernel
theorem dX5_region_4 : decode cX5_region 4 = .ok (.aload_n 0, 1) := by decide +kernel
theorem dX5_region_5 : decode cX5_region 5 = .ok (.getfield 12, 3) := by decide +kernel
theorem dX5_region_8 : decode cX5_region 8 = .ok (.iload_n 1, 1) := by decide +kernel
theorem dX5_region_9 : decode cX5_region 9 = .ok (.invokevirtual 179, 3) := by decide +kernel
theorem dX5_region_12 : decode cX5_region 12 = .ok (.ireturn, 1) := by decide +kernel
theorem dX5_faults_0 : decode cX5_faults 0 = .ok (.aload_n 0, 1) := by decide +kernel
theorem dX5_faults_1 : decode cX5_faults 1 = .ok (.invokevirtual 129, 3) := by decide +kernel
theorem dX5_faults_4 : decode cX5_faults 4 = .ok (.getfield 183, 3) := by decide +kernel
theorem dX5_faults_7 : decode cX5_faults 7 = .ok (.getfield 187, 3) := by decide +kernel
theorem dX5_faults_10 : decode cX5_faults 10 = .ok (.ireturn, 1) := by decide +kernel
theorem dX5_ofFault_0 : decode cX5_ofFault 0 = .ok (.aload_n 0, 1) := by decide +kernel
theorem dX5_ofFault_1 : decode cX5_ofFault 1 = .ok (.invokevirtual 129, 3) := by decide +kernel
theorem dX5_ofFault_4 : decode cX5_ofFault 4 = .ok (.astore_n 3, 1) := by decide +kernel
theorem dX5_ofFault_5 : decode cX5_ofFault 5 = .ok (.iload_n 1, 1) := by decide +kernel
theorem dX5_ofFault_6 : decode cX5_ofFault 6 = .ok (.ifCond .lt 14, 3) := by decide +kernel
theorem dX5_ofFault_9 : decode cX5_ofFault 9 = .ok (.iload_n 1, 1) := by decide +kernel
theorem dX5_ofFault_10 : decode cX5_ofFault 10 = .ok (.aload_n 3, 1) := by decide +kernel
theorem dX5_ofFault_11 : decode cX5_ofFault 11 = .ok (.getfield 183, 3) := by decide +kernel
theorem dX5_ofFault_14 : decode cX5_ofFault 14 = .ok (.getfield 187, 3) := by decide +kernel
theorem dX5_ofFault_17 : decode cX5_ofFault 17 = .ok (.if_icmp .lt 13, 3) := by decide +kernel
theorem dX5_ofFault_20 : decode cX5_ofFault 20 = .ok (.new 192, 3) := by decide +kernel
theorem dX5_ofFault_23 : decode cX5_ofFault 23 = .ok (.dup, 1) := by decide +kernel
theorem dX5_ofFault_24 : decode cX5_ofFault 24 = .ok (.ldc 194, 2) := by decide +kernel
theorem dX5_ofFault_26 : decode cX5_ofFault 26 = .ok (.invokespecial 196, 3) := by decide +kernel
theorem dX5_ofFault_29 : decode cX5_ofFault 29 = .ok (.athrow, 1) := by decide +kernel
theorem dX5_ofFault_30 : decode cX5_ofFault 30 = .ok (.iload_n 2, 1) := by decide +kernel
theorem dX5_ofFault_31 : decode cX5_ofFault 31 = .ok (.ifCond .lt 9, 3) := by decide +kernel
theorem dX5_ofFault_34 : decode cX5_ofFault 34 = .ok (.iload_n 2, 1) := by decide +kernel
theorem dX5_ofFault_35 : decode cX5_ofFault 35 = .ok (.bipush 7, 2) := by decide +kernel
theorem dX5_ofFault_37 : decode cX5_ofFault 37 = .ok (.if_icmp .lt 13, 3) := by decide +kernel
theorem dX5_ofFault_40 : decode cX5_ofFault 40 = .ok (.new 32, 3) := by decide +kernel
theorem dX5_ofFault_43 : decode cX5_ofFault 43 = .ok (.dup, 1) := by decide +kernel
theorem dX5_ofFault_44 : decode cX5_ofFault 44 = .ok (.ldc 197, 2) := by decide +kernel
theorem dX5_ofFault_46 : decode cX5_ofFault 46 = .ok (.invokespecial 36, 3) := by decide +kernel
theorem dX5_ofFault_49 : decode cX5_ofFault 49 = .ok (.athrow, 1) := by decide +kernel
theorem dX5_ofFault_50 : decode cX5_ofFault 50 = .ok (.aload_n 3, 1) := by decide +kernel
theorem dX5_ofFault_51 : decode cX5_ofFault 51 = .ok (.aload_n 0, 1) := by decide +kernel
theorem dX5_ofFault_52 : decode cX5_ofFault 52 = .ok (.getfield 12, 3) := by decide +kernel
theorem dX5_ofFault_55 : decode cX5_ofFault 55 = .ok (.iload_n 1, 1) := by decide +kernel
theorem dX5_ofFault_56 : decode cX5_ofFault 56 = .ok (.iload_n 2, 1) := by decide +kernel
theorem dX5_ofFault_57 : decode cX5_ofFault 57 = .ok (.invokevirtual 199, 3) := by decide +kernel
theorem dX5_ofFault_60 : decode cX5_ofFault 60 = .ok (.ireturn, 1) := by decide +kernel
theorem dX5_faultsAt_0 : decode cX5_faultsAt 0 = .ok (.aload_n 0, 1) := by decide +kernel
theorem dX5_faultsAt_1 : decode cX5_faultsAt 1 = .ok (.iload_n 1, 1) := by decide +kernel
theorem dX5_faultsAt_2 : decode cX5_faultsAt 2 = .ok (.invokevirtual 113, 3) := by decide +kernel
theorem dX5_faultsAt_5 : decode cX5_faultsAt 5 = .ok (.aload_n 0, 1) := by decide +kernel
theorem dX5_faultsAt_6 : decode cX5_faultsAt 6 = .ok (.invokevirtual 129, 3) := by decide +kernel
theorem dX5_faultsAt_9 : decode cX5_faultsAt 9 = .ok (.getfield 183, 3) := by decide +kernel
theorem dX5_faultsAt_12 : decode cX5_faultsAt 12 = .ok (.iload_n 1, 1) := by decide +kernel
theorem dX5_faultsAt_13 : decode cX5_faultsAt 13 = .ok (.invokevirtual 203, 3) := by decide +kernel
theorem dX5_faultsAt_16 : decode cX5_faultsAt 16 = .ok (.ireturn, 1) := by decide +kernel
theorem dX5_faultsOf_0 : decode cX5_faultsOf 0 = .ok (.iload_n 1, 1) := by decide +kernel
theorem dX5_faultsOf_1 : decode cX5_faultsOf 1 = .ok (.iconst 1, 1) := by decide +kernel
theorem dX5_faultsOf_2 : decode cX5_faultsOf 2 = .ok (.if_icmp .lt 9, 3) := by decide +kernel
theorem dX5_faultsOf_5 : decode cX5_faultsOf 5 = .ok (.iload_n 1, 1) := by decide +kernel
theorem dX5_faultsOf_6 : decode cX5_faultsOf 6 = .ok (.bipush 6, 2) := by decide +kernel
theorem dX5_faultsOf_8 : decode cX5_faultsOf 8 = .ok (.if_icmp .le 13, 3) := by decide +kernel
theorem dX5_faultsOf_11 : decode cX5_faultsOf 11 = .ok (.new 32, 3) := by decide +kernel
theorem dX5_faultsOf_14 : decode cX5_faultsOf 14 = .ok (.dup, 1) := by decide +kernel
theorem dX5_faultsOf_15 : decode cX5_faultsOf 15 = .ok (.ldc 206, 2) := by decide +kernel
theorem dX5_faultsOf_17 : decode cX5_faultsOf 17 = .ok (.invokespecial 36, 3) := by decide +kernel
theorem dX5_faultsOf_20 : decode cX5_faultsOf 20 = .ok (.athrow, 1) := by decide +kernel
theorem dX5_faultsOf_21 : decode cX5_faultsOf 21 = .ok (.aload_n 0, 1) := by decide +kernel
theorem dX5_faultsOf_22 : decode cX5_faultsOf 22 = .ok (.invokevirtual 129, 3) := by decide +kernel
theorem dX5_faultsOf_25 : decode cX5_faultsOf 25 = .ok (.getfield 183, 3) := by decide +kernel
theorem dX5_faultsOf_28 : decode cX5_faultsOf 28 = .ok (.iload_n 1, 1) := by decide +kernel
theorem dX5_faultsOf_29 : decode cX5_faultsOf 29 = .ok (.invokevirtual 208, 3) := by decide +kernel
theorem dX5_faultsOf_32 : decode cX5_faultsOf 32 = .ok (.ireturn, 1) := by decide +kernel
theorem dX5_without_0 : decode cX5_without 0 = .ok (.aload_n 0, 1) := by decide +kernel
theorem dX5_without_1 : decode cX5_without 1 = .ok (.iload_n 1, 1) := by decide +kernel
theorem dX5_without_2 : decode cX5_without 2 = .ok (.invokevirtual 113, 3) := by decide +kernel
theorem dX5_without_5 : decode cX5_without 5 = .ok (.aload_n 0, 1) := by decide +kernel
theorem dX5_without_6 : decode cX5_without 6 = .ok (.iload_n 1, 1) := by decide +kernel
theorem dX5_without_7 : decode cX5_without 7 = .ok (.iconst (-1), 1) := by decide +kernel
theorem dX5_without_8 : decode cX5_without 8 = .ok (.invokevirtual 211, 3) := by decide +kernel
theorem dX5_without_11 : decode cX5_without 11 = .ok (.ireturn, 1) := by decide +kernel
theorem dX5_copied_0 : decode cX5_copied 0 = .ok (.aload_n 0, 1) := by decide +kernel
theorem dX5_copied_1 : decode cX5_copied 1 = .ok (.iload_n 1, 1) := by decide +kernel
theorem dX5_copied_2 : decode cX5_copied 2 = .ok (.invokevirtual 113, 3) := by decide +kernel
theorem dX5_copied_5 : decode cX5_copied 5 = .ok (.aload_n 0, 1) := by decide +kernel
theorem dX5_copied_6 : decode cX5_copied 6 = .ok (.iconst (-1), 1) := by decide +kernel
theorem dX5_copied_7 : decode cX5_copied 7 = .ok (.iload_n 1, 1) := by decide +kernel
theorem dX5_copied_8 : decode cX5_copied 8 = .ok (.invokevirtual 211, 3) := by decide +kernel
theorem dX5_copied_11 : decode cX5_copied 11 = .ok (.ireturn, 1) := by decide +kernel
theorem dX5_culprit_0 : decode cX5_culprit 0 = .ok (.aload_n 0, 1) := by decide +kernel
theorem dX5_culprit_1 : decode cX5_culprit 1 = .ok (.invokevirtual 129, 3) := by decide +kernel
theorem dX5_culprit_4 : decode cX5_culprit 4 = .ok (.getfield 183, 3) := by decide +kernel
theorem dX5_culprit_7 : decode cX5_culprit 7 = .ok (.getfield 187, 3) := by decide +kernel
theorem dX5_culprit_10 : decode cX5_culprit 10 = .ok (.istore_n 1, 1) := by decide +kernel
theorem dX5_culprit_11 : decode cX5_culprit 11 = .ok (.iconst (-1), 1) := by decide +kernel
theorem dX5_culprit_12 : decode cX5_culprit 12 = .ok (.istore_n 2, 1) := by decide +kernel
theorem dX5_culprit_13 : decode cX5_culprit 13 = .ok (.iconst 0, 1) := by decide +kernel
theorem dX5_culprit_14 : decode cX5_culprit 14 = .ok (.istore_n 3, 1) := by decide +kernel
theorem dX5_culprit_15 : decode cX5_culprit 15 = .ok (.iload_n 3, 1) := by decide +kernel
theorem dX5_culprit_16 : decode cX5_culprit 16 = .ok (.aload_n 0, 1) := by decide +kernel
theorem dX5_culprit_17 : decode cX5_culprit 17 = .ok (.getfield 12, 3) := by decide +kernel
theorem dX5_culprit_20 : decode cX5_culprit 20 = .ok (.getfield 121, 3) := by decide +kernel
theorem dX5_culprit_23 : decode cX5_culprit 23 = .ok (.if_icmp .ge 28, 3) := by decide +kernel
theorem dX5_culprit_26 : decode cX5_culprit 26 = .ok (.aload_n 0, 1) := by decide +kernel
theorem dX5_culprit_27 : decode cX5_culprit 27 = .ok (.iload_n 3, 1) := by decide +kernel
theorem dX5_culprit_28 : decode cX5_culprit 28 = .ok (.iconst (-1), 1) := by decide +kernel
theorem dX5_culprit_29 : decode cX5_culprit 29 = .ok (.invokevirtual 211, 3) := by decide +kernel
theorem dX5_culprit_32 : decode cX5_culprit 32 = .ok (.istore 4, 2) := by decide +kernel
theorem dX5_culprit_34 : decode cX5_culprit 34 = .ok (.iload 4, 2) := by decide +kernel
theorem dX5_culprit_36 : decode cX5_culprit 36 = .ok (.iload_n 1, 1) := by decide +kernel
theorem dX5_culprit_37 : decode cX5_culprit 37 = .ok (.if_icmp .ge 8, 3) := by decide +kernel
theorem dX5_culprit_40 : decode cX5_culprit 40 = .ok (.iload 4, 2) := by decide +kernel
theorem dX5_culprit_42 : decode cX5_culprit 42 = .ok (.istore_n 1, 1) := by decide +kernel
theorem dX5_culprit_43 : decode cX5_culprit 43 = .ok (.iload_n 3, 1) := by decide +kernel
theorem dX5_culprit_44 : decode cX5_culprit 44 = .ok (.istore_n 2, 1) := by decide +kernel
theorem dX5_culprit_45 : decode cX5_culprit 45 = .ok (.iinc 3 1, 3) := by decide +kernel
theorem dX5_culprit_48 : decode cX5_culprit 48 = .ok (.goto (-33), 3) := by decide +kernel
theorem dX5_culprit_51 : decode cX5_culprit 51 = .ok (.iload_n 2, 1) := by decide +kernel
theorem dX5_culprit_52 : decode cX5_culprit 52 = .ok (.ireturn, 1) := by decide +kernel
theorem dX5_density_0 : decode cX5_density 0 = .ok (.aload_n 0, 1) := by decide +kernel
theorem dX5_density_1 : decode cX5_density 1 = .ok (.invokevirtual 129, 3) := by decide +kernel
theorem dX5_density_4 : decode cX5_density 4 = .ok (.astore_n 1, 1) := by decide +kernel
theorem dX5_density_5 : decode cX5_density 5 = .ok (.aload_n 1, 1) := by decide +kernel
theorem dX5_density_6 : decode cX5_density 6 = .ok (.getfield 133, 3) := by decide +kernel
theorem dX5_density_9 : decode cX5_density 9 = .ok (.getfield 215, 3) := by decide +kernel
theorem dX5_density_12 : decode cX5_density 12 = .ok (.invokestatic 155, 3) := by decide +kernel
theorem dX5_density_15 : decode cX5_density 15 = .ok (.istore_n 2, 1) := by decide +kernel
theorem dX5_density_16 : decode cX5_density 16 = .ok (.iload_n 2, 1) := by decide +kernel
theorem dX5_density_17 : decode cX5_density 17 = .ok (.ifCond .le 17, 3) := by decide +kernel
theorem dX5_density_20 : decode cX5_density 20 = .ok (.aload_n 1, 1) := by decide +kernel
theorem dX5_density_21 : decode cX5_density 21 = .ok (.getfield 183, 3) := by decide +kernel
theorem dX5_density_24 : decode cX5_density 24 = .ok (.getfield 187, 3) := by decide +kernel
theorem dX5_density_27 : decode cX5_density 27 = .ok (.i2d, 1) := by decide +kernel
theorem dX5_density_28 : decode cX5_density 28 = .ok (.iload_n 2, 1) := by decide +kernel
theorem dX5_density_29 : decode cX5_density 29 = .ok (.i2d, 1) := by decide +kernel
theorem dX5_density_30 : decode cX5_density 30 = .ok (.ddiv, 1) := by decide +kernel
theorem dX5_density_31 : decode cX5_density 31 = .ok (.goto 4, 3) := by decide +kernel
theorem dX5_density_34 : decode cX5_density 34 = .ok (.dconst 0, 1) := by decide +kernel
theorem dX5_density_35 : decode cX5_density 35 = .ok (.dreturn, 1) := by decide +kernel
theorem dX5_digest_0 : decode cX5_digest 0 = .ok (.aload_n 0, 1) := by decide +kernel
theorem dX5_digest_1 : decode cX5_digest 1 = .ok (.invokevirtual 129, 3) := by decide +kernel
theorem dX5_digest_4 : decode cX5_digest 4 = .ok (.astore_n 1, 1) := by decide +kernel
theorem dX5_digest_5 : decode cX5_digest 5 = .ok (.ldc2_w 219, 3) := by decide +kernel
theorem dX5_digest_8 : decode cX5_digest 8 = .ok (.lstore_n 2, 1) := by decide +kernel
theorem dX5_digest_9 : decode cX5_digest 9 = .ok (.lload_n 2, 1) := by decide +kernel
theorem dX5_digest_10 : decode cX5_digest 10 = .ok (.ldc2_w 221, 3) := by decide +kernel
theorem dX5_digest_13 : decode cX5_digest 13 = .ok (.lmul, 1) := by decide +kernel
theorem dX5_digest_14 : decode cX5_digest 14 = .ok (.aload_n 0, 1) := by decide +kernel
theorem dX5_digest_15 : decode cX5_digest 15 = .ok (.getfield 12, 3) := by decide +kernel
theorem dX5_digest_18 : decode cX5_digest 18 = .ok (.getfield 39, 3) := by decide +kernel
theorem dX5_digest_21 : decode cX5_digest 21 = .ok (.i2l, 1) := by decide +kernel
theorem dX5_digest_22 : decode cX5_digest 22 = .ok (.ladd, 1) := by decide +kernel
theorem dX5_digest_23 : decode cX5_digest 23 = .ok (.lstore_n 2, 1) := by decide +kernel
theorem dX5_digest_24 : decode cX5_digest 24 = .ok (.lload_n 2, 1) := by decide +kernel
theorem dX5_digest_25 : decode cX5_digest 25 = .ok (.ldc2_w 221, 3) := by decide +kernel
theorem dX5_digest_28 : decode cX5_digest 28 = .ok (.lmul, 1) := by decide +kernel
theorem dX5_digest_29 : decode cX5_digest 29 = .ok (.aload_n 0, 1) := by decide +kernel
theorem dX5_digest_30 : decode cX5_digest 30 = .ok (.getfield 12, 3) := by decide +kernel
theorem dX5_digest_33 : decode cX5_digest 33 = .ok (.getfield 121, 3) := by decide +kernel
theorem dX5_digest_36 : decode cX5_digest 36 = .ok (.i2l, 1) := by decide +kernel
theorem dX5_digest_37 : decode cX5_digest 37 = .ok (.ladd, 1) := by decide +kernel
theorem dX5_digest_38 : decode cX5_digest 38 = .ok (.lstore_n 2, 1) := by decide +kernel
theorem dX5_digest_39 : decode cX5_digest 39 = .ok (.lload_n 2, 1) := by decide +kernel
theorem dX5_digest_40 : decode cX5_digest 40 = .ok (.ldc2_w 221, 3) := by decide +kernel
theorem dX5_digest_43 : decode cX5_digest 43 = .ok (.lmul, 1) := by decide +kernel
theorem dX5_digest_44 : decode cX5_digest 44 = .ok (.aload_n 1, 1) := by decide +kernel
theorem dX5_digest_45 : decode cX5_digest 45 = .ok (.aload_n 0, 1) := by decide +kernel
theorem dX5_digest_46 : decode cX5_digest 46 = .ok (.getfield 12, 3) := by decide +kernel
theorem dX5_digest_49 : decode cX5_digest 49 = .ok (.invokevirtual 171, 3) := by decide +kernel
theorem dX5_digest_52 : decode cX5_digest 52 = .ok (.i2l, 1) := by decide +kernel
theorem dX5_digest_53 : decode cX5_digest 53 = .ok (.ladd, 1) := by decide +kernel
theorem dX5_digest_54 : decode cX5_digest 54 = .ok (.lstore_n 2, 1) := by decide +kernel
theorem dX5_digest_55 : decode cX5_digest 55 = .ok (.lload_n 2, 1) := by decide +kernel
theorem dX5_digest_56 : decode cX5_digest 56 = .ok (.ldc2_w 221, 3) := by decide +kernel
theorem dX5_digest_59 : decode cX5_digest 59 = .ok (.lmul, 1) := by decide +kernel
theorem dX5_digest_60 : decode cX5_digest 60 = .ok (.aload_n 1, 1) := by decide +kernel
theorem dX5_digest_61 : decode cX5_digest 61 = .ok (.getfield 183, 3) := by decide +kernel
theorem dX5_digest_64 : decode cX5_digest 64 = .ok (.getfield 187, 3) := by decide +kernel
theorem dX5_digest_67 : decode cX5_digest 67 = .ok (.i2l, 1) := by decide +kernel
theorem dX5_digest_68 : decode cX5_digest 68 = .ok (.ladd, 1) := by decide +kernel
theorem dX5_digest_69 : decode cX5_digest 69 = .ok (.lstore_n 2, 1) := by decide +kernel
theorem dX5_digest_70 : decode cX5_digest 70 = .ok (.iconst 0, 1) := by decide +kernel
theorem dX5_digest_71 : decode cX5_digest 71 = .ok (.istore 4, 2) := by decide +kernel
theorem dX5_digest_73 : decode cX5_digest 73 = .ok (.iload 4, 2) := by decide +kernel
theorem dX5_digest_75 : decode cX5_digest 75 = .ok (.aload_n 0, 1) := by decide +kernel
theorem dX5_digest_76 : decode cX5_digest 76 = .ok (.getfield 12, 3) := by decide +kernel
theorem dX5_digest_79 : decode cX5_digest 79 = .ok (.getfield 121, 3) := by decide +kernel
theorem dX5_digest_82 : decode cX5_digest 82 = .ok (.if_icmp .ge 18, 3) := by decide +kernel
theorem dX5_digest_85 : decode cX5_digest 85 = .ok (.aload_n 0, 1) := by decide +kernel
theorem dX5_digest_86 : decode cX5_digest 86 = .ok (.lload_n 2, 1) := by decide +kernel
theorem dX5_digest_87 : decode cX5_digest 87 = .ok (.aload_n 1, 1) := by decide +kernel
theorem dX5_digest_88 : decode cX5_digest 88 = .ok (.iload 4, 2) := by decide +kernel
theorem dX5_digest_90 : decode cX5_digest 90 = .ok (.invokevirtual 223, 3) := by decide +kernel
theorem dX5_digest_93 : decode cX5_digest 93 = .ok (.lstore_n 2, 1) := by decide +kernel
theorem dX5_digest_94 : decode cX5_digest 94 = .ok (.iinc 4 1, 3) := by decide +kernel
theorem dX5_digest_97 : decode cX5_digest 97 = .ok (.goto (-24), 3) := by decide +kernel
theorem dX5_digest_100 : decode cX5_digest 100 = .ok (.iconst 0, 1) := by decide +kernel
theorem dX5_digest_101 : decode cX5_digest 101 = .ok (.istore 4, 2) := by decide +kernel
theorem dX5_digest_103 : decode cX5_digest 103 = .ok (.iload 4, 2) := by decide +kernel
theorem dX5_digest_105 : decode cX5_digest 105 = .ok (.aload_n 1, 1) := by decide +kernel
theorem dX5_digest_106 : decode cX5_digest 106 = .ok (.getfield 183, 3) := by decide +kernel
theorem dX5_digest_109 : decode cX5_digest 109 = .ok (.getfield 187, 3) := by decide +kernel
theorem dX5_digest_112 : decode cX5_digest 112 = .ok (.if_icmp .ge 45, 3) := by decide +kernel
theorem dX5_digest_115 : decode cX5_digest 115 = .ok (.iconst 0, 1) := by decide +kernel
theorem dX5_digest_116 : decode cX5_digest 116 = .ok (.istore 5, 2) := by decide +kernel
theorem dX5_digest_118 : decode cX5_digest 118 = .ok (.iload 5, 2) := by decide +kernel
theorem dX5_digest_120 : decode cX5_digest 120 = .ok (.bipush 7, 2) := by decide +kernel
theorem dX5_digest_122 : decode cX5_digest 122 = .ok (.if_icmp .ge 29, 3) := by decide +kernel
theorem dX5_digest_125 : decode cX5_digest 125 = .ok (.lload_n 2, 1) := by decide +kernel
theorem dX5_digest_126 : decode cX5_digest 126 = .ok (.ldc2_w 221, 3) := by decide +kernel
theorem dX5_digest_129 : decode cX5_digest 129 = .ok (.lmul, 1) := by decide +kernel
theorem dX5_digest_130 : decode cX5_digest 130 = .ok (.aload_n 1, 1) := by decide +kernel
theorem dX5_digest_131 : decode cX5_digest 131 = .ok (.aload_n 0, 1) := by decide +kernel
theorem dX5_digest_132 : decode cX5_digest 132 = .ok (.getfield 12, 3) := by decide +kernel
theorem dX5_digest_135 : decode cX5_digest 135 = .ok (.iload 4, 2) := by decide +kernel
theorem dX5_digest_137 : decode cX5_digest 137 = .ok (.iload 5, 2) := by decide +kernel
theorem dX5_digest_139 : decode cX5_digest 139 = .ok (.invokevirtual 199, 3) := by decide +kernel
theorem dX5_digest_142 : decode cX5_digest 142 = .ok (.i2l, 1) := by decide +kernel
theorem dX5_digest_143 : decode cX5_digest 143 = .ok (.ladd, 1) := by decide +kernel
theorem dX5_digest_144 : decode cX5_digest 144 = .ok (.lstore_n 2, 1) := by decide +kernel
theorem dX5_digest_145 : decode cX5_digest 145 = .ok (.iinc 5 1, 3) := by decide +kernel
theorem dX5_digest_148 : decode cX5_digest 148 = .ok (.goto (-30), 3) := by decide +kernel
theorem dX5_digest_151 : decode cX5_digest 151 = .ok (.iinc 4 1, 3) := by decide +kernel
theorem dX5_digest_154 : decode cX5_digest 154 = .ok (.goto (-51), 3) := by decide +kernel
theorem dX5_digest_157 : decode cX5_digest 157 = .ok (.iconst 1, 1) := by decide +kernel
theorem dX5_digest_158 : decode cX5_digest 158 = .ok (.istore 4, 2) := by decide +kernel
theorem dX5_digest_160 : decode cX5_digest 160 = .ok (.iload 4, 2) := by decide +kernel
theorem dX5_digest_162 : decode cX5_digest 162 = .ok (.bipush 6, 2) := by decide +kernel
theorem dX5_digest_164 : decode cX5_digest 164 = .ok (.if_icmp .gt 26, 3) := by decide +kernel
theorem dX5_digest_167 : decode cX5_digest 167 = .ok (.lload_n 2, 1) := by decide +kernel
theorem dX5_digest_168 : decode cX5_digest 168 = .ok (.ldc2_w 221, 3) := by decide +kernel
theorem dX5_digest_171 : decode cX5_digest 171 = .ok (.lmul, 1) := by decide +kernel
theorem dX5_digest_172 : decode cX5_digest 172 = .ok (.aload_n 1, 1) := by decide +kernel
theorem dX5_digest_173 : decode cX5_digest 173 = .ok (.getfield 183, 3) := by decide +kernel
theorem dX5_digest_176 : decode cX5_digest 176 = .ok (.iload 4, 2) := by decide +kernel
theorem dX5_digest_178 : decode cX5_digest 178 = .ok (.invokevirtual 208, 3) := by decide +kernel
theorem dX5_digest_181 : decode cX5_digest 181 = .ok (.i2l, 1) := by decide +kernel
theorem dX5_digest_182 : decode cX5_digest 182 = .ok (.ladd, 1) := by decide +kernel
theorem dX5_digest_183 : decode cX5_digest 183 = .ok (.lstore_n 2, 1) := by decide +kernel
theorem dX5_digest_184 : decode cX5_digest 184 = .ok (.iinc 4 1, 3) := by decide +kernel
theorem dX5_digest_187 : decode cX5_digest 187 = .ok (.goto (-27), 3) := by decide +kernel
theorem dX5_digest_190 : decode cX5_digest 190 = .ok (.lload_n 2, 1) := by decide +kernel
theorem dX5_digest_191 : decode cX5_digest 191 = .ok (.lreturn, 1) := by decide +kernel
theorem dX5_addStatement_0 : decode cX5_addStatement 0 = .ok (.lload_n 1, 1) := by decide +kernel
theorem dX5_addStatement_1 : decode cX5_addStatement 1 = .ok (.lstore 5, 2) := by decide +kernel
theorem dX5_addStatement_3 : decode cX5_addStatement 3 = .ok (.lload 5, 2) := by decide +kernel
theorem dX5_addStatement_5 : decode cX5_addStatement 5 = .ok (.ldc2_w 221, 3) := by decide +kernel
theorem dX5_addStatement_8 : decode cX5_addStatement 8 = .ok (.lmul, 1) := by decide +kernel
theorem dX5_addStatement_9 : decode cX5_addStatement 9 = .ok (.aload_n 0, 1) := by decide +kernel
theorem dX5_addStatement_10 : decode cX5_addStatement 10 = .ok (.getfield 12, 3) := by decide +kernel
theorem dX5_addStatement_13 : decode cX5_addStatement 13 = .ok (.getfield 126, 3) := by decide +kernel
theorem dX5_addStatement_16 : decode cX5_addStatement 16 = .ok (.iload 4, 2) := by decide +kernel
theorem dX5_addStatement_18 : decode cX5_addStatement 18 = .ok (.iaload, 1) := by decide +kernel
theorem dX5_addStatement_19 : decode cX5_addStatement 19 = .ok (.i2l, 1) := by decide +kernel
theorem dX5_addStatement_20 : decode cX5_addStatement 20 = .ok (.ladd, 1) := by decide +kernel
theorem dX5_addStatement_21 : decode cX5_addStatement 21 = .ok (.lstore 5, 2) := by decide +kernel
theorem dX5_addStatement_23 : decode cX5_addStatement 23 = .ok (.lload 5, 2) := by decide +kernel
theorem dX5_addStatement_25 : decode cX5_addStatement 25 = .ok (.ldc2_w 221, 3) := by decide +kernel
theorem dX5_addStatement_28 : decode cX5_addStatement 28 = .ok (.lmul, 1) := by decide +kernel
theorem dX5_addStatement_29 : decode cX5_addStatement 29 = .ok (.aload_n 3, 1) := by decide +kernel
theorem dX5_addStatement_30 : decode cX5_addStatement 30 = .ok (.getfield 133, 3) := by decide +kernel
theorem dX5_addStatement_33 : decode cX5_addStatement 33 = .ok (.iload 4, 2) := by decide +kernel
theorem dX5_addStatement_35 : decode cX5_addStatement 35 = .ok (.invokevirtual 137, 3) := by decide +kernel
theorem dX5_addStatement_38 : decode cX5_addStatement 38 = .ok (.ifCond .eq 7, 3) := by decide +kernel
theorem dX5_addStatement_41 : decode cX5_addStatement 41 = .ok (.iconst 1, 1) := by decide +kernel
theorem dX5_addStatement_42 : decode cX5_addStatement 42 = .ok (.goto 4, 3) := by decide +kernel
theorem dX5_addStatement_45 : decode cX5_addStatement 45 = .ok (.iconst 0, 1) := by decide +kernel
theorem dX5_addStatement_46 : decode cX5_addStatement 46 = .ok (.i2l, 1) := by decide +kernel
theorem dX5_addStatement_47 : decode cX5_addStatement 47 = .ok (.ladd, 1) := by decide +kernel
theorem dX5_addStatement_48 : decode cX5_addStatement 48 = .ok (.lstore 5, 2) := by decide +kernel
theorem dX5_addStatement_50 : decode cX5_addStatement 50 = .ok (.lload 5, 2) := by decide +kernel
theorem dX5_addStatement_52 : decode cX5_addStatement 52 = .ok (.ldc2_w 221, 3) := by decide +kernel
theorem dX5_addStatement_55 : decode cX5_addStatement 55 = .ok (.lmul, 1) := by decide +kernel
theorem dX5_addStatement_56 : decode cX5_addStatement 56 = .ok (.aload_n 3, 1) := by decide +kernel
theorem dX5_addStatement_57 : decode cX5_addStatement 57 = .ok (.getfield 133, 3) := by decide +kernel
theorem dX5_addStatement_60 : decode cX5_addStatement 60 = .ok (.getfield 168, 3) := by decide +kernel
theorem dX5_addStatement_63 : decode cX5_addStatement 63 = .ok (.iload 4, 2) := by decide +kernel
theorem dX5_addStatement_65 : decode cX5_addStatement 65 = .ok (.iaload, 1) := by decide +kernel
theorem dX5_addStatement_66 : decode cX5_addStatement 66 = .ok (.i2l, 1) := by decide +kernel
theorem dX5_addStatement_67 : decode cX5_addStatement 67 = .ok (.ladd, 1) := by decide +kernel
theorem dX5_addStatement_68 : decode cX5_addStatement 68 = .ok (.lstore 5, 2) := by decide +kernel
theorem dX5_addStatement_70 : decode cX5_addStatement 70 = .ok (.lload 5, 2) := by decide +kernel
theorem dX5_addStatement_72 : decode cX5_addStatement 72 = .ok (.ldc2_w 221, 3) := by decide +kernel
theorem dX5_addStatement_75 : decode cX5_addStatement 75 = .ok (.lmul, 1) := by decide +kernel
theorem dX5_addStatement_76 : decode cX5_addStatement 76 = .ok (.aload_n 3, 1) := by decide +kernel
theorem dX5_addStatement_77 : decode cX5_addStatement 77 = .ok (.aload_n 0, 1) := by decide +kernel
theorem dX5_addStatement_78 : decode cX5_addStatement 78 = .ok (.getfield 12, 3) := by decide +kernel
theorem dX5_addStatement_81 : decode cX5_addStatement 81 = .ok (.iload 4, 2) := by decide +kernel
theorem dX5_addStatement_83 : decode cX5_addStatement 83 = .ok (.invokevirtual 179, 3) := by decide +kernel
theorem dX5_addStatement_86 : decode cX5_addStatement 86 = .ok (.i2l, 1) := by decide +kernel
theorem dX5_addStatement_87 : decode cX5_addStatement 87 = .ok (.ladd, 1) := by decide +kernel
theorem dX5_addStatement_88 : decode cX5_addStatement 88 = .ok (.lstore 5, 2) := by decide +kernel
theorem dX5_addStatement_90 : decode cX5_addStatement 90 = .ok (.iconst 0, 1) := by decide +kernel
theorem dX5_addStatement_91 : decode cX5_addStatement 91 = .ok (.istore 7, 2) := by decide +kernel
theorem dX5_addStatement_93 : decode cX5_addStatement 93 = .ok (.iload 7, 2) := by decide +kernel
theorem dX5_addStatement_95 : decode cX5_addStatement 95 = .ok (.aload_n 0, 1) := by decide +kernel
theorem dX5_addStatement_96 : decode cX5_addStatement 96 = .ok (.getfield 12, 3) := by decide +kernel
theorem dX5_addStatement_99 : decode cX5_addStatement 99 = .ok (.getfield 39, 3) := by decide +kernel
theorem dX5_addStatement_102 : decode cX5_addStatement 102 = .ok (.if_icmp .ge 62, 3) := by decide +kernel
theorem dX5_addStatement_105 : decode cX5_addStatement 105 = .ok (.lload 5, 2) := by decide +kernel
theorem dX5_addStatement_107 : decode cX5_addStatement 107 = .ok (.ldc2_w 221, 3) := by decide +kernel
theorem dX5_addStatement_110 : decode cX5_addStatement 110 = .ok (.lmul, 1) := by decide +kernel
theorem dX5_addStatement_111 : decode cX5_addStatement 111 = .ok (.aload_n 3, 1) := by decide +kernel
theorem dX5_addStatement_112 : decode cX5_addStatement 112 = .ok (.getfield 133, 3) := by decide +kernel
theorem dX5_addStatement_115 : decode cX5_addStatement 115 = .ok (.iload 4, 2) := by decide +kernel
theorem dX5_addStatement_117 : decode cX5_addStatement 117 = .ok (.aload_n 0, 1) := by decide +kernel
theorem dX5_addStatement_118 : decode cX5_addStatement 118 = .ok (.getfield 12, 3) := by decide +kernel
theorem dX5_addStatement_121 : decode cX5_addStatement 121 = .ok (.iload 7, 2) := by decide +kernel
theorem dX5_addStatement_123 : decode cX5_addStatement 123 = .ok (.iconst (-1), 1) := by decide +kernel
theorem dX5_addStatement_124 : decode cX5_addStatement 124 = .ok (.invokevirtual 144, 3) := by decide +kernel
theorem dX5_addStatement_127 : decode cX5_addStatement 127 = .ok (.invokevirtual 148, 3) := by decide +kernel
theorem dX5_addStatement_130 : decode cX5_addStatement 130 = .ok (.i2l, 1) := by decide +kernel
theorem dX5_addStatement_131 : decode cX5_addStatement 131 = .ok (.ladd, 1) := by decide +kernel
theorem dX5_addStatement_132 : decode cX5_addStatement 132 = .ok (.lstore 5, 2) := by decide +kernel
theorem dX5_addStatement_134 : decode cX5_addStatement 134 = .ok (.lload 5, 2) := by decide +kernel
theorem dX5_addStatement_136 : decode cX5_addStatement 136 = .ok (.ldc2_w 221, 3) := by decide +kernel
theorem dX5_addStatement_139 : decode cX5_addStatement 139 = .ok (.lmul, 1) := by decide +kernel
theorem dX5_addStatement_140 : decode cX5_addStatement 140 = .ok (.aload_n 3, 1) := by decide +kernel
theorem dX5_addStatement_141 : decode cX5_addStatement 141 = .ok (.getfield 133, 3) := by decide +kernel
theorem dX5_addStatement_144 : decode cX5_addStatement 144 = .ok (.iload 4, 2) := by decide +kernel
theorem dX5_addStatement_146 : decode cX5_addStatement 146 = .ok (.iload 7, 2) := by decide +kernel
theorem dX5_addStatement_148 : decode cX5_addStatement 148 = .ok (.invokevirtual 152, 3) := by decide +kernel
theorem dX5_addStatement_151 : decode cX5_addStatement 151 = .ok (.invokestatic 155, 3) := by decide +kernel
theorem dX5_addStatement_154 : decode cX5_addStatement 154 = .ok (.i2l, 1) := by decide +kernel
theorem dX5_addStatement_155 : decode cX5_addStatement 155 = .ok (.ladd, 1) := by decide +kernel
theorem dX5_addStatement_156 : decode cX5_addStatement 156 = .ok (.lstore 5, 2) := by decide +kernel
theorem dX5_addStatement_158 : decode cX5_addStatement 158 = .ok (.iinc 7 1, 3) := by decide +kernel
theorem dX5_addStatement_161 : decode cX5_addStatement 161 = .ok (.goto (-68), 3) := by decide +kernel
theorem dX5_addStatement_164 : decode cX5_addStatement 164 = .ok (.lload 5, 2) := by decide +kernel
theorem dX5_addStatement_166 : decode cX5_addStatement 166 = .ok (.lreturn, 1) := by decide +kernel
theorem dX5_begin_0 : decode cX5_begin 0 = .ok (.aload_n 0, 1) := by decide +kernel
theorem dX5_begin_1 : decode cX5_begin 1 = .ok (.iconst 0, 1) := by decide +kernel
theorem dX5_begin_2 : decode cX5_begin 2 = .ok (.putfield 28, 3) := by decide +kernel
theorem dX5_begin_5 : decode cX5_begin 5 = .ok (.aload_n 0, 1) := by decide +kernel
theorem dX5_begin_6 : decode cX5_begin 6 = .ok (.getfield 12, 3) := by decide +kernel
theorem dX5_begin_9 : decode cX5_begin 9 = .ok (.iload_n 1, 1) := by decide +kernel
theorem dX5_begin_10 : decode cX5_begin 10 = .ok (.invokevirtual 227, 3) := by decide +kernel
theorem dX5_begin_13 : decode cX5_begin 13 = .ok (.ireturn, 1) := by decide +kernel
theorem dX5_checked_0 : decode cX5_checked 0 = .ok (.aload_n 0, 1) := by decide +kernel
theorem dX5_checked_1 : decode cX5_checked 1 = .ok (.getfield 28, 3) := by decide +kernel
theorem dX5_checked_4 : decode cX5_checked 4 = .ok (.ifCond .ne 21, 3) := by decide +kernel
theorem dX5_checked_7 : decode cX5_checked 7 = .ok (.aload_n 0, 1) := by decide +kernel
theorem dX5_checked_8 : decode cX5_checked 8 = .ok (.getfield 21, 3) := by decide +kernel
theorem dX5_checked_11 : decode cX5_checked 11 = .ok (.aload_n 0, 1) := by decide +kernel
theorem dX5_checked_12 : decode cX5_checked 12 = .ok (.getfield 12, 3) := by decide +kernel
theorem dX5_checked_15 : decode cX5_checked 15 = .ok (.iconst (-1), 1) := by decide +kernel
theorem dX5_checked_16 : decode cX5_checked 16 = .ok (.iconst (-1), 1) := by decide +kernel
theorem dX5_checked_17 : decode cX5_checked 17 = .ok (.invokevirtual 229, 3) := by decide +kernel
theorem dX5_checked_20 : decode cX5_checked 20 = .ok (.aload_n 0, 1) := by decide +kernel
theorem dX5_checked_21 : decode cX5_checked 21 = .ok (.iconst 1, 1) := by decide +kernel
theorem dX5_checked_22 : decode cX5_checked 22 = .ok (.putfield 28, 3) := by decide +kernel
theorem dX5_checked_25 : decode cX5_checked 25 = .ok (.aload_n 0, 1) := by decide +kernel
theorem dX5_checked_26 : decode cX5_checked 26 = .ok (.getfield 21, 3) := by decide +kernel
theorem dX5_checked_29 : decode cX5_checked 29 = .ok (.areturn, 1) := by decide +kernel
theorem dX5_countSupposing_0 : decode cX5_countSupposing 0 = .ok (.aload_n 0, 1) := by decide +kernel
theorem dX5_countSupposing_1 : decode cX5_countSupposing 1 = .ok (.getfield 25, 3) := by decide +kernel
theorem dX5_countSupposing_4 : decode cX5_countSupposing 4 = .ok (.aload_n 0, 1) := by decide +kernel
theorem dX5_countSupposing_5 : decode cX5_countSupposing 5 = .ok (.getfield 12, 3) := by decide +kernel
theorem dX5_countSupposing_8 : decode cX5_countSupposing 8 = .ok (.iload_n 1, 1) := by decide +kernel
theorem dX5_countSupposing_9 : decode cX5_countSupposing 9 = .ok (.iload_n 2, 1) := by decide +kernel
theorem dX5_countSupposing_10 : decode cX5_countSupposing 10 = .ok (.invokevirtual 229, 3) := by decide +kernel
theorem dX5_countSupposing_13 : decode cX5_countSupposing 13 = .ok (.aload_n 0, 1) := by decide +kernel
theorem dX5_countSupposing_14 : decode cX5_countSupposing 14 = .ok (.getfield 25, 3) := by decide +kernel
theorem dX5_countSupposing_17 : decode cX5_countSupposing 17 = .ok (.getfield 183, 3) := by decide +kernel
theorem dX5_countSupposing_20 : decode cX5_countSupposing 20 = .ok (.getfield 187, 3) := by decide +kernel
theorem dX5_countSupposing_23 : decode cX5_countSupposing 23 = .ok (.ireturn, 1) := by decide +kernel
theorem dX5_requireVariable_0 : decode cX5_requireVariable 0 = .ok (.iload_n 1, 1) := by decide +kernel
theorem dX5_requireVariable_1 : decode cX5_requireVariable 1 = .ok (.ifCond .lt 14, 3) := by decide +kernel
theorem dX5_requireVariable_4 : decode cX5_requireVariable 4 = .ok (.iload_n 1, 1) := by decide +kernel
theorem dX5_requireVariable_5 : decode cX5_requireVariable 5 = .ok (.aload_n 0, 1) := by decide +kernel
theorem dX5_requireVariable_6 : decode cX5_requireVariable 6 = .ok (.getfield 12, 3) := by decide +kernel
theorem dX5_requireVariable_9 : decode cX5_requireVariable 9 = .ok (.getfield 39, 3) := by decide +kernel
theorem dX5_requireVariable_12 : decode cX5_requireVariable 12 = .ok (.if_icmp .lt 13, 3) := by decide +kernel
theorem dX5_requireVariable_15 : decode cX5_requireVariable 15 = .ok (.new 192, 3) := by decide +kernel
theorem dX5_requireVariable_18 : decode cX5_requireVariable 18 = .ok (.dup, 1) := by decide +kernel
theorem dX5_requireVariable_19 : decode cX5_requireVariable 19 = .ok (.ldc 233, 2) := by decide +kernel
theorem dX5_requireVariable_21 : decode cX5_requireVariable 21 = .ok (.invokespecial 196, 3) := by decide +kernel
theorem dX5_requireVariable_24 : decode cX5_requireVariable 24 = .ok (.athrow, 1) := by decide +kernel
theorem dX5_requireVariable_25 : decode cX5_requireVariable 25 = .ok (.return_, 1) := by decide +kernel
theorem dX5_requireVariableOrNone_0 : decode cX5_requireVariableOrNone 0 = .ok (.iload_n 1, 1) := by decide +kernel
theorem dX5_requireVariableOrNone_1 : decode cX5_requireVariableOrNone 1 = .ok (.iconst (-1), 1) := by decide +kernel
theorem dX5_requireVariableOrNone_2 : decode cX5_requireVariableOrNone 2 = .ok (.if_icmp .eq 8, 3) := by decide +kernel
theorem dX5_requireVariableOrNone_5 : decode cX5_requireVariableOrNone 5 = .ok (.aload_n 0, 1) := by decide +kernel
theorem dX5_requireVariableOrNone_6 : decode cX5_requireVariableOrNone 6 = .ok (.iload_n 1, 1) := by decide +kernel
theorem dX5_requireVariableOrNone_7 : decode cX5_requireVariableOrNone 7 = .ok (.invokevirtual 52, 3) := by decide +kernel
theorem dX5_requireVariableOrNone_10 : decode cX5_requireVariableOrNone 10 = .ok (.return_, 1) := by decide +kernel
theorem dX5_requireStatement_0 : decode cX5_requireStatement 0 = .ok (.iload_n 1, 1) := by decide +kernel
theorem dX5_requireStatement_1 : decode cX5_requireStatement 1 = .ok (.ifCond .lt 14, 3) := by decide +kernel
theorem dX5_requireStatement_4 : decode cX5_requireStatement 4 = .ok (.iload_n 1, 1) := by decide +kernel
theorem dX5_requireStatement_5 : decode cX5_requireStatement 5 = .ok (.aload_n 0, 1) := by decide +kernel
theorem dX5_requireStatement_6 : decode cX5_requireStatement 6 = .ok (.getfield 12, 3) := by decide +kernel
theorem dX5_requireStatement_9 : decode cX5_requireStatement 9 = .ok (.getfield 121, 3) := by decide +kernel
theorem dX5_requireStatement_12 : decode cX5_requireStatement 12 = .ok (.if_icmp .lt 13, 3) := by decide +kernel
theorem dX5_requireStatement_15 : decode cX5_requireStatement 15 = .ok (.new 192, 3) := by decide +kernel
theorem dX5_requireStatement_18 : decode cX5_requireStatement 18 = .ok (.dup, 1) := by decide +kernel
theorem dX5_requireStatement_19 : decode cX5_requireStatement 19 = .ok (.ldc 235, 2) := by decide +kernel
theorem dX5_requireStatement_21 : decode cX5_requireStatement 21 = .ok (.invokespecial 196, 3) := by decide +kernel
theorem dX5_requireStatement_24 : decode cX5_requireStatement 24 = .ok (.athrow, 1) := by decide +kernel
theorem dX5_requireStatement_25 : decode cX5_requireStatement 25 = .ok (.return_, 1) := by decide +kernel
theorem dX5_requireTarget_0 : decode cX5_requireTarget 0 = .ok (.iload_n 1, 1) := by decide +kernel
theorem dX5_requireTarget_1 : decode cX5_requireTarget 1 = .ok (.ifCond .lt 9, 3) := by decide +kernel
theorem dX5_requireTarget_4 : decode cX5_requireTarget 4 = .ok (.iload_n 1, 1) := by decide +kernel
theorem dX5_requireTarget_5 : decode cX5_requireTarget 5 = .ok (.bipush 40, 2) := by decide +kernel
theorem dX5_requireTarget_7 : decode cX5_requireTarget 7 = .ok (.if_icmp .le 13, 3) := by decide +kernel
theorem dX5_requireTarget_10 : decode cX5_requireTarget 10 = .ok (.new 32, 3) := by decide +kernel
theorem dX5_requireTarget_13 : decode cX5_requireTarget 13 = .ok (.dup, 1) := by decide +kernel
theorem dX5_requireTarget_14 : decode cX5_requireTarget 14 = .ok (.ldc 237, 2) := by decide +kernel
theorem dX5_requireTarget_16 : decode cX5_requireTarget 16 = .ok (.invokespecial 36, 3) := by decide +kernel
theorem dX5_requireTarget_19 : decode cX5_requireTarget 19 = .ok (.athrow, 1) := by decide +kernel
theorem dX5_requireTarget_20 : decode cX5_requireTarget 20 = .ok (.return_, 1) := by decide +kernel
theorem dX5_requireRoom_0 : decode cX5_requireRoom 0 = .ok (.aload_n 0, 1) := by decide +kernel
theorem dX5_requireRoom_1 : decode cX5_requireRoom 1 = .ok (.getfield 12, 3) := by decide +kernel
theorem dX5_requireRoom_4 : decode cX5_requireRoom 4 = .ok (.getfield 121, 3) := by decide +kernel
theorem dX5_requireRoom_7 : decode cX5_requireRoom 7 = .ok (.bipush 40, 2) := by decide +kernel
theorem dX5_requireRoom_9 : decode cX5_requireRoom 9 = .ok (.if_icmp .lt 13, 3) := by decide +kernel
theorem dX5_requireRoom_12 : decode cX5_requireRoom 12 = .ok (.new 43, 3) := by decide +kernel
theorem dX5_requireRoom_15 : decode cX5_requireRoom 15 = .ok (.dup, 1) := by decide +kernel
theorem dX5_requireRoom_16 : decode cX5_requireRoom 16 = .ok (.ldc 239, 2) := by decide +kernel
theorem dX5_requireRoom_18 : decode cX5_requireRoom 18 = .ok (.invokespecial 47, 3) := by decide +kernel
theorem dX5_requireRoom_21 : decode cX5_requireRoom 21 = .ok (.athrow, 1) := by decide +kernel
theorem dX5_requireRoom_22 : decode cX5_requireRoom 22 = .ok (.return_, 1) := by decide +kernel
theorem dX5_isIn_0 : decode cX5_isIn 0 = .ok (.lload_n 0, 1) := by decide +kernel
theorem dX5_isIn_1 : decode cX5_isIn 1 = .ok (.iload_n 2, 1) := by decide +kernel
theorem dX5_isIn_2 : decode cX5_isIn 2 = .ok (.lshr, 1) := by decide +kernel
theorem dX5_isIn_3 : decode cX5_isIn 3 = .ok (.lconst 1, 1) := by decide +kernel
theorem dX5_isIn_4 : decode cX5_isIn 4 = .ok (.land, 1) := by decide +kernel
theorem dX5_isIn_5 : decode cX5_isIn 5 = .ok (.lconst 0, 1) := by decide +kernel
theorem dX5_isIn_6 : decode cX5_isIn 6 = .ok (.lcmp, 1) := by decide +kernel
theorem dX5_isIn_7 : decode cX5_isIn 7 = .ok (.ifCond .eq 7, 3) := by decide +kernel
theorem dX5_isIn_10 : decode cX5_isIn 10 = .ok (.iconst 1, 1) := by decide +kernel
theorem dX5_isIn_11 : decode cX5_isIn 11 = .ok (.goto 4, 3) := by decide +kernel
theorem dX5_isIn_14 : decode cX5_isIn 14 = .ok (.iconst 0, 1) := by decide +kernel
theorem dX5_isIn_15 : decode cX5_isIn 15 = .ok (.ireturn, 1) := by decide +kernel
theorem dX5_smallestIn_0 : decode cX5_smallestIn 0 = .ok (.lload_n 0, 1) := by decide +kernel
theorem dX5_smallestIn_1 : decode cX5_smallestIn 1 = .ok (.lconst 0, 1) := by decide +kernel
theorem dX5_smallestIn_2 : decode cX5_smallestIn 2 = .ok (.lcmp, 1) := by decide +kernel
theorem dX5_smallestIn_3 : decode cX5_smallestIn 3 = .ok (.ifCond .ne 7, 3) := by decide +kernel
theorem dX5_smallestIn_6 : decode cX5_smallestIn 6 = .ok (.iconst (-1), 1) := by decide +kernel
theorem dX5_smallestIn_7 : decode cX5_smallestIn 7 = .ok (.goto 12, 3) := by decide +kernel
theorem dX5_smallestIn_10 : decode cX5_smallestIn 10 = .ok (.lload_n 0, 1) := by decide +kernel
theorem dX5_smallestIn_11 : decode cX5_smallestIn 11 = .ok (.lload_n 0, 1) := by decide +kernel
theorem dX5_smallestIn_12 : decode cX5_smallestIn 12 = .ok (.lneg, 1) := by decide +kernel
theorem dX5_smallestIn_13 : decode cX5_smallestIn 13 = .ok (.land, 1) := by decide +kernel
theorem dX5_smallestIn_14 : decode cX5_smallestIn 14 = .ok (.lconst 1, 1) := by decide +kernel
theorem dX5_smallestIn_15 : decode cX5_smallestIn 15 = .ok (.lsub, 1) := by decide +kernel
theorem dX5_smallestIn_16 : decode cX5_smallestIn 16 = .ok (.invokestatic 155, 3) := by decide +kernel
theorem dX5_smallestIn_19 : decode cX5_smallestIn 19 = .ok (.ireturn, 1) := by decide +kernel
theorem dJ13_bitCount_95d88_0 : decode cJ13_bitCount_95d88 0 = .ok (.lload_n 0, 1) := by decide +kernel
theorem dJ13_bitCount_95d88_1 : decode cJ13_bitCount_95d88 1 = .ok (.lload_n 0, 1) := by decide +kernel
theorem dJ13_bitCount_95d88_2 : decode cJ13_bitCount_95d88 2 = .ok (.iconst 1, 1) := by decide +kernel
theorem dJ13_bitCount_95d88_3 : decode cJ13_bitCount_95d88 3 = .ok (.lushr, 1) := by decide +kernel
theorem dJ13_bitCount_95d88_4 : decode cJ13_bitCount_95d88 4 = .ok (.ldc2_w 314, 3) := by decide +kernel
theorem dJ13_bitCount_95d88_7 : decode cJ13_bitCount_95d88 7 = .ok (.land, 1) := by decide +kernel
theorem dJ13_bitCount_95d88_8 : decode cJ13_bitCount_95d88 8 = .ok (.lsub, 1) := by decide +kernel
theorem dJ13_bitCount_95d88_9 : decode cJ13_bitCount_95d88 9 = .ok (.lstore_n 0, 1) := by decide +kernel
theorem dJ13_bitCount_95d88_10 : decode cJ13_bitCount_95d88 10 = .ok (.lload_n 0, 1) := by decide +kernel
theorem dJ13_bitCount_95d88_11 : decode cJ13_bitCount_95d88 11 = .ok (.ldc2_w 316, 3) := by decide +kernel
theorem dJ13_bitCount_95d88_14 : decode cJ13_bitCount_95d88 14 = .ok (.land, 1) := by decide +kernel
theorem dJ13_bitCount_95d88_15 : decode cJ13_bitCount_95d88 15 = .ok (.lload_n 0, 1) := by decide +kernel
theorem dJ13_bitCount_95d88_16 : decode cJ13_bitCount_95d88 16 = .ok (.iconst 2, 1) := by decide +kernel
theorem dJ13_bitCount_95d88_17 : decode cJ13_bitCount_95d88 17 = .ok (.lushr, 1) := by decide +kernel
theorem dJ13_bitCount_95d88_18 : decode cJ13_bitCount_95d88 18 = .ok (.ldc2_w 316, 3) := by decide +kernel
theorem dJ13_bitCount_95d88_21 : decode cJ13_bitCount_95d88 21 = .ok (.land, 1) := by decide +kernel
theorem dJ13_bitCount_95d88_22 : decode cJ13_bitCount_95d88 22 = .ok (.ladd, 1) := by decide +kernel
theorem dJ13_bitCount_95d88_23 : decode cJ13_bitCount_95d88 23 = .ok (.lstore_n 0, 1) := by decide +kernel
theorem dJ13_bitCount_95d88_24 : decode cJ13_bitCount_95d88 24 = .ok (.lload_n 0, 1) := by decide +kernel
theorem dJ13_bitCount_95d88_25 : decode cJ13_bitCount_95d88 25 = .ok (.lload_n 0, 1) := by decide +kernel
theorem dJ13_bitCount_95d88_26 : decode cJ13_bitCount_95d88 26 = .ok (.iconst 4, 1) := by decide +kernel
theorem dJ13_bitCount_95d88_27 : decode cJ13_bitCount_95d88 27 = .ok (.lushr, 1) := by decide +kernel
theorem dJ13_bitCount_95d88_28 : decode cJ13_bitCount_95d88 28 = .ok (.ladd, 1) := by decide +kernel
theorem dJ13_bitCount_95d88_29 : decode cJ13_bitCount_95d88 29 = .ok (.ldc2_w 318, 3) := by decide +kernel
theorem dJ13_bitCount_95d88_32 : decode cJ13_bitCount_95d88 32 = .ok (.land, 1) := by decide +kernel
theorem dJ13_bitCount_95d88_33 : decode cJ13_bitCount_95d88 33 = .ok (.lstore_n 0, 1) := by decide +kernel
theorem dJ13_bitCount_95d88_34 : decode cJ13_bitCount_95d88 34 = .ok (.lload_n 0, 1) := by decide +kernel
theorem dJ13_bitCount_95d88_35 : decode cJ13_bitCount_95d88 35 = .ok (.lload_n 0, 1) := by decide +kernel
theorem dJ13_bitCount_95d88_36 : decode cJ13_bitCount_95d88 36 = .ok (.bipush 8, 2) := by decide +kernel
theorem dJ13_bitCount_95d88_38 : decode cJ13_bitCount_95d88 38 = .ok (.lushr, 1) := by decide +kernel
theorem dJ13_bitCount_95d88_39 : decode cJ13_bitCount_95d88 39 = .ok (.ladd, 1) := by decide +kernel
theorem dJ13_bitCount_95d88_40 : decode cJ13_bitCount_95d88 40 = .ok (.lstore_n 0, 1) := by decide +kernel
theorem dJ13_bitCount_95d88_41 : decode cJ13_bitCount_95d88 41 = .ok (.lload_n 0, 1) := by decide +kernel
theorem dJ13_bitCount_95d88_42 : decode cJ13_bitCount_95d88 42 = .ok (.lload_n 0, 1) := by decide +kernel
theorem dJ13_bitCount_95d88_43 : decode cJ13_bitCount_95d88 43 = .ok (.bipush 16, 2) := by decide +kernel
theorem dJ13_bitCount_95d88_45 : decode cJ13_bitCount_95d88 45 = .ok (.lushr, 1) := by decide +kernel
theorem dJ13_bitCount_95d88_46 : decode cJ13_bitCount_95d88 46 = .ok (.ladd, 1) := by decide +kernel
theorem dJ13_bitCount_95d88_47 : decode cJ13_bitCount_95d88 47 = .ok (.lstore_n 0, 1) := by decide +kernel
theorem dJ13_bitCount_95d88_48 : decode cJ13_bitCount_95d88 48 = .ok (.lload_n 0, 1) := by decide +kernel
theorem dJ13_bitCount_95d88_49 : decode cJ13_bitCount_95d88 49 = .ok (.lload_n 0, 1) := by decide +kernel
theorem dJ13_bitCount_95d88_50 : decode cJ13_bitCount_95d88 50 = .ok (.bipush 32, 2) := by decide +kernel
theorem dJ13_bitCount_95d88_52 : decode cJ13_bitCount_95d88 52 = .ok (.lushr, 1) := by decide +kernel
theorem dJ13_bitCount_95d88_53 : decode cJ13_bitCount_95d88 53 = .ok (.ladd, 1) := by decide +kernel
theorem dJ13_bitCount_95d88_54 : decode cJ13_bitCount_95d88 54 = .ok (.lstore_n 0, 1) := by decide +kernel
theorem dJ13_bitCount_95d88_55 : decode cJ13_bitCount_95d88 55 = .ok (.lload_n 0, 1) := by decide +kernel
theorem dJ13_bitCount_95d88_56 : decode cJ13_bitCount_95d88 56 = .ok (.l2i, 1) := by decide +kernel
theorem dJ13_bitCount_95d88_57 : decode cJ13_bitCount_95d88 57 = .ok (.bipush 127, 2) := by decide +kernel
theorem dJ13_bitCount_95d88_59 : decode cJ13_bitCount_95d88 59 = .ok (.iand, 1) := by decide +kernel
theorem dJ13_bitCount_95d88_60 : decode cJ13_bitCount_95d88 60 = .ok (.ireturn, 1) := by decide +kernel
theorem dJ9_min_7cf53_0 : decode cJ9_min_7cf53 0 = .ok (.iload_n 0, 1) := by decide +kernel
theorem dJ9_min_7cf53_1 : decode cJ9_min_7cf53 1 = .ok (.iload_n 1, 1) := by decide +kernel
theorem dJ9_min_7cf53_2 : decode cJ9_min_7cf53 2 = .ok (.if_icmp .gt 7, 3) := by decide +kernel
theorem dJ9_min_7cf53_5 : decode cJ9_min_7cf53 5 = .ok (.iload_n 0, 1) := by decide +kernel
theorem dJ9_min_7cf53_6 : decode cJ9_min_7cf53 6 = .ok (.goto 4, 3) := by decide +kernel
theorem dJ9_min_7cf53_9 : decode cJ9_min_7cf53 9 = .ok (.iload_n 1, 1) := by decide +kernel
theorem dJ9_min_7cf53_10 : decode cJ9_min_7cf53 10 = .ok (.ireturn, 1) := by decide +kernel
