set_option maxRecDepth 20000 in
theorem ggX7_init_Jx4a65c_init_da8c8 : GoodIn wsX7_init wsJx4a65c_init_da8c8 := goodIn_r _ [17, 18, 19, 20, 21, 22, 23, 24, 25, 26, 27, 28, 29, 3, 4, 308, 309, 310] (by decide +kernel) (by decide +kernel)
set_option maxRecDepth 20000 in
theorem ggX7_init_Jx4a65c_size_8abf5 : GoodIn wsX7_init wsJx4a65c_size_8abf5 := goodIn_r _ [33, 34, 308, 309, 310] (by decide +kernel) (by decide +kernel)
set_option maxRecDepth 20000 in
theorem gX7_init_Jx4a65c_size_8abf5 : GoodIn wsX7_init (wsV RX7 32 RJx4a65c yJx4a65c_size_8abf5 wsJx4a65c_size_8abf5) := goodIn_app (goodIn_of _ (by decide +kernel)) ggX7_init_Jx4a65c_size_8abf5
set_option maxRecDepth 20000 in
theorem ggX7_init_Jx4a65c_isEmpty_aae02 : GoodIn wsX7_init wsJx4a65c_isEmpty_aae02 := goodIn_r _ [38, 34, 308, 309, 310] (by decide +kernel) (by decide +kernel)
set_option maxRecDepth 20000 in
theorem gX7_init_Jx4a65c_isEmpty_aae02 : GoodIn wsX7_init (wsV RX7 46 RJx4a65c yJx4a65c_isEmpty_aae02 wsJx4a65c_isEmpty_aae02) := goodIn_app (goodIn_of _ (by decide +kernel)) ggX7_init_Jx4a65c_isEmpty_aae02
theorem dX7_init_0 : decode cX7_init 0 = .ok (.aload_n 0, 1) := by decide +kernel
theorem dX7_init_1 : decode cX7_init 1 = .ok (.aload_n 1, 1) := by decide +kernel
theorem dX7_init_2 : decode cX7_init 2 = .ok (.putfield 3, 3) := by decide +kernel
theorem dX7_init_5 : decode cX7_init 5 = .ok (.aload_n 0, 1) := by decide +kernel
theorem dX7_init_6 : decode cX7_init 6 = .ok (.invokespecial 9, 3) := by decide +kernel
theorem dX7_init_9 : decode cX7_init 9 = .ok (.aload_n 0, 1) := by decide +kernel
theorem dX7_init_10 : decode cX7_init 10 = .ok (.new 15, 3) := by decide +kernel
theorem dX7_init_13 : decode cX7_init 13 = .ok (.dup, 1) := by decide +kernel
theorem dX7_init_14 : decode cX7_init 14 = .ok (.invokespecial 17, 3) := by decide +kernel
theorem dX7_init_17 : decode cX7_init 17 = .ok (.putfield 18, 3) := by decide +kernel
theorem dX7_init_20 : decode cX7_init 20 = .ok (.aload_n 0, 1) := by decide +kernel
theorem dX7_init_21 : decode cX7_init 21 = .ok (.iload_n 2, 1) := by decide +kernel
theorem dX7_init_22 : decode cX7_init 22 = .ok (.putfield 22, 3) := by decide +kernel
theorem dX7_init_25 : decode cX7_init 25 = .ok (.aload_n 0, 1) := by decide +kernel
theorem dX7_init_26 : decode cX7_init 26 = .ok (.iload_n 3, 1) := by decide +kernel
theorem dX7_init_27 : decode cX7_init 27 = .ok (.putfield 26, 3) := by decide +kernel
theorem dX7_init_30 : decode cX7_init 30 = .ok (.aload_n 0, 1) := by decide +kernel
theorem dX7_init_31 : decode cX7_init 31 = .ok (.aload_n 1, 1) := by decide +kernel
theorem dX7_init_32 : decode cX7_init 32 = .ok (.getfield 29, 3) := by decide +kernel
theorem dX7_init_35 : decode cX7_init 35 = .ok (.invokevirtual 32, 3) := by decide +kernel
theorem dX7_init_38 : decode cX7_init 38 = .ok (.anewarray 36, 3) := by decide +kernel
theorem dX7_init_41 : decode cX7_init 41 = .ok (.putfield 38, 3) := by decide +kernel
theorem dX7_init_44 : decode cX7_init 44 = .ok (.aload_n 0, 1) := by decide +kernel
theorem dX7_init_45 : decode cX7_init 45 = .ok (.aload_n 1, 1) := by decide +kernel
theorem dX7_init_46 : decode cX7_init 46 = .ok (.getfield 29, 3) := by decide +kernel
theorem dX7_init_49 : decode cX7_init 49 = .ok (.invokevirtual 32, 3) := by decide +kernel
theorem dX7_init_52 : decode cX7_init 52 = .ok (.newarray .int, 2) := by decide +kernel
theorem dX7_init_54 : decode cX7_init 54 = .ok (.putfield 42, 3) := by decide +kernel
theorem dX7_init_57 : decode cX7_init 57 = .ok (.aload_n 1, 1) := by decide +kernel
theorem dX7_init_58 : decode cX7_init 58 = .ok (.getfield 29, 3) := by decide +kernel
theorem dX7_init_61 : decode cX7_init 61 = .ok (.invokevirtual 46, 3) := by decide +kernel
theorem dX7_init_64 : decode cX7_init 64 = .ok (.ifCond .eq 4, 3) := by decide +kernel
theorem dX7_init_67 : decode cX7_init 67 = .ok (.return_, 1) := by decide +kernel
theorem dX7_isLoan_0 : decode cX7_isLoan 0 = .ok (.iload_n 1, 1) := by decide +kernel
theorem dX7_isLoan_1 : decode cX7_isLoan 1 = .ok (.ifCond .lt 44, 3) := by decide +kernel
theorem dX7_isLoan_4 : decode cX7_isLoan 4 = .ok (.iload_n 1, 1) := by decide +kernel
theorem dX7_isLoan_5 : decode cX7_isLoan 5 = .ok (.aload_n 0, 1) := by decide +kernel
theorem dX7_isLoan_6 : decode cX7_isLoan 6 = .ok (.getfield 38, 3) := by decide +kernel
theorem dX7_isLoan_9 : decode cX7_isLoan 9 = .ok (.arraylength, 1) := by decide +kernel
theorem dX7_isLoan_10 : decode cX7_isLoan 10 = .ok (.if_icmp .ge 35, 3) := by decide +kernel
theorem dX7_isLoan_45 : decode cX7_isLoan 45 = .ok (.iconst 0, 1) := by decide +kernel
theorem dX7_isLoan_46 : decode cX7_isLoan 46 = .ok (.ireturn, 1) := by decide +kernel
theorem dX9_init_0 : decode cX9_init 0 = .ok (.aload_n 0, 1) := by decide +kernel
theorem dX9_init_1 : decode cX9_init 1 = .ok (.invokespecial 3, 3) := by decide +kernel
theorem dX9_init_4 : decode cX9_init 4 = .ok (.aload_n 0, 1) := by decide +kernel
theorem dX9_init_5 : decode cX9_init 5 = .ok (.iload_n 1, 1) := by decide +kernel
theorem dX9_init_6 : decode cX9_init 6 = .ok (.putfield 9, 3) := by decide +kernel
theorem dX9_init_9 : decode cX9_init 9 = .ok (.aload_n 0, 1) := by decide +kernel
theorem dX9_init_10 : decode cX9_init 10 = .ok (.iload_n 2, 1) := by decide +kernel
theorem dX9_init_11 : decode cX9_init 11 = .ok (.putfield 15, 3) := by decide +kernel
theorem dX9_init_14 : decode cX9_init 14 = .ok (.aload_n 0, 1) := by decide +kernel
theorem dX9_init_15 : decode cX9_init 15 = .ok (.iload_n 3, 1) := by decide +kernel
theorem dX9_init_16 : decode cX9_init 16 = .ok (.putfield 18, 3) := by decide +kernel
theorem dX9_init_19 : decode cX9_init 19 = .ok (.aload_n 0, 1) := by decide +kernel
theorem dX9_init_20 : decode cX9_init 20 = .ok (.iload 4, 2) := by decide +kernel
theorem dX9_init_22 : decode cX9_init 22 = .ok (.putfield 21, 3) := by decide +kernel
theorem dX9_init_25 : decode cX9_init 25 = .ok (.aload_n 0, 1) := by decide +kernel
theorem dX9_init_26 : decode cX9_init 26 = .ok (.iload 5, 2) := by decide +kernel
theorem dX9_init_28 : decode cX9_init 28 = .ok (.putfield 24, 3) := by decide +kernel
theorem dX9_init_31 : decode cX9_init 31 = .ok (.aload_n 0, 1) := by decide +kernel
theorem dX9_init_32 : decode cX9_init 32 = .ok (.iload 6, 2) := by decide +kernel
theorem dX9_init_34 : decode cX9_init 34 = .ok (.putfield 27, 3) := by decide +kernel
theorem dX9_init_37 : decode cX9_init 37 = .ok (.return_, 1) := by decide +kernel
theorem dX10_init_0 : decode cX10_init 0 = .ok (.aload_n 0, 1) := by decide +kernel
theorem dX10_init_1 : decode cX10_init 1 = .ok (.invokespecial 3, 3) := by decide +kernel
theorem dX10_init_4 : decode cX10_init 4 = .ok (.aload_n 0, 1) := by decide +kernel
theorem dX10_init_5 : decode cX10_init 5 = .ok (.iload_n 1, 1) := by decide +kernel
theorem dX10_init_6 : decode cX10_init 6 = .ok (.putfield 9, 3) := by decide +kernel
theorem dX10_init_9 : decode cX10_init 9 = .ok (.aload_n 0, 1) := by decide +kernel
theorem dX10_init_10 : decode cX10_init 10 = .ok (.iload_n 2, 1) := by decide +kernel
theorem dX10_init_11 : decode cX10_init 11 = .ok (.putfield 15, 3) := by decide +kernel
theorem dX10_init_14 : decode cX10_init 14 = .ok (.return_, 1) := by decide +kernel
set_option maxRecDepth 20000 in
theorem ggX11_init_Jx4a65c_init_da8c8 : GoodIn wsX11_init wsJx4a65c_init_da8c8 := goodIn_r _ [11, 12, 13, 14, 15, 16, 17, 18, 19, 20, 21, 22, 23, 2, 3, 24, 25, 26] (by decide +kernel) (by decide +kernel)
theorem dX11_init_0 : decode cX11_init 0 = .ok (.aload_n 0, 1) := by decide +kernel
theorem dX11_init_1 : decode cX11_init 1 = .ok (.invokespecial 1, 3) := by decide +kernel
theorem dX11_init_4 : decode cX11_init 4 = .ok (.aload_n 0, 1) := by decide +kernel
theorem dX11_init_5 : decode cX11_init 5 = .ok (.new 7, 3) := by decide +kernel
theorem dX11_init_8 : decode cX11_init 8 = .ok (.dup, 1) := by decide +kernel
theorem dX11_init_9 : decode cX11_init 9 = .ok (.invokespecial 9, 3) := by decide +kernel
theorem dX11_init_12 : decode cX11_init 12 = .ok (.putfield 10, 3) := by decide +kernel
theorem dX11_init_15 : decode cX11_init 15 = .ok (.aload_n 0, 1) := by decide +kernel
theorem dX11_init_16 : decode cX11_init 16 = .ok (.new 7, 3) := by decide +kernel
theorem dX11_init_19 : decode cX11_init 19 = .ok (.dup, 1) := by decide +kernel
theorem dX11_init_20 : decode cX11_init 20 = .ok (.invokespecial 9, 3) := by decide +kernel
theorem dX11_init_23 : decode cX11_init 23 = .ok (.putfield 16, 3) := by decide +kernel
theorem dX11_init_26 : decode cX11_init 26 = .ok (.return_, 1) := by decide +kernel
theorem dX11_thrown_0 : decode cX11_thrown 0 = .ok (.aload_n 0, 1) := by decide +kernel
theorem dX11_thrown_1 : decode cX11_thrown 1 = .ok (.getfield 19, 3) := by decide +kernel
theorem dX11_thrown_4 : decode cX11_thrown 4 = .ok (.ireturn, 1) := by decide +kernel
theorem dX11_isIn_0 : decode cX11_isIn 0 = .ok (.iload_n 0, 1) := by decide +kernel
theorem dX11_isIn_1 : decode cX11_isIn 1 = .ok (.iload_n 1, 1) := by decide +kernel
theorem dX11_isIn_2 : decode cX11_isIn 2 = .ok (.if_icmp .lt 12, 3) := by decide +kernel
theorem dX11_isIn_5 : decode cX11_isIn 5 = .ok (.iload_n 0, 1) := by decide +kernel
theorem dX11_isIn_6 : decode cX11_isIn 6 = .ok (.iload_n 2, 1) := by decide +kernel
theorem dX11_isIn_7 : decode cX11_isIn 7 = .ok (.if_icmp .gt 7, 3) := by decide +kernel
theorem dX11_isIn_10 : decode cX11_isIn 10 = .ok (.iconst 1, 1) := by decide +kernel
theorem dX11_isIn_11 : decode cX11_isIn 11 = .ok (.goto 4, 3) := by decide +kernel
theorem dX11_isIn_14 : decode cX11_isIn 14 = .ok (.iconst 0, 1) := by decide +kernel
theorem dX11_isIn_15 : decode cX11_isIn 15 = .ok (.ireturn, 1) := by decide +kernel
theorem dX11_refuse_0 : decode cX11_refuse 0 = .ok (.iload_n 1, 1) := by decide +kernel
theorem dX11_refuse_1 : decode cX11_refuse 1 = .ok (.ifCond .eq 15, 3) := by decide +kernel
theorem dX11_refuse_4 : decode cX11_refuse 4 = .ok (.aload_n 0, 1) := by decide +kernel
theorem dX11_refuse_5 : decode cX11_refuse 5 = .ok (.getfield 19, 3) := by decide +kernel
theorem dX11_refuse_8 : decode cX11_refuse 8 = .ok (.ifCond .ne 8, 3) := by decide +kernel
theorem dX11_refuse_11 : decode cX11_refuse 11 = .ok (.aload_n 0, 1) := by decide +kernel
theorem dX11_refuse_12 : decode cX11_refuse 12 = .ok (.iload_n 2, 1) := by decide +kernel
theorem dX11_refuse_13 : decode cX11_refuse 13 = .ok (.putfield 19, 3) := by decide +kernel
theorem dX11_refuse_16 : decode cX11_refuse 16 = .ok (.aload_n 0, 1) := by decide +kernel
theorem dX11_refuse_17 : decode cX11_refuse 17 = .ok (.getfield 19, 3) := by decide +kernel
theorem dX11_refuse_20 : decode cX11_refuse 20 = .ok (.ifCond .le 7, 3) := by decide +kernel
theorem dX11_refuse_23 : decode cX11_refuse 23 = .ok (.iconst 1, 1) := by decide +kernel
theorem dX11_refuse_24 : decode cX11_refuse 24 = .ok (.goto 4, 3) := by decide +kernel
theorem dX11_refuse_27 : decode cX11_refuse 27 = .ok (.iconst 0, 1) := by decide +kernel
theorem dX11_refuse_28 : decode cX11_refuse 28 = .ok (.ireturn, 1) := by decide +kernel
set_option maxRecDepth 20000 in
theorem ggX11_start_X11_refuse : GoodIn wsX11_start wsX11_refuse := goodIn_r _ [6, 1, 7, 8, 9] (by decide +kernel) (by decide +kernel)
set_option maxRecDepth 20000 in
theorem gX11_start_X11_refuse : GoodIn wsX11_start (wsV RX11 23 RX11 yX11_refuse wsX11_refuse) := goodIn_app (goodIn_of _ (by decide +kernel)) ggX11_start_X11_refuse
theorem dX11_start_0 : decode cX11_start 0 = .ok (.aload_n 0, 1) := by decide +kernel
theorem dX11_start_1 : decode cX11_start 1 = .ok (.iconst 0, 1) := by decide +kernel
theorem dX11_start_2 : decode cX11_start 2 = .ok (.putfield 19, 3) := by decide +kernel
theorem dX11_start_5 : decode cX11_start 5 = .ok (.aload_n 0, 1) := by decide +kernel
theorem dX11_start_6 : decode cX11_start 6 = .ok (.iload_n 1, 1) := by decide +kernel
theorem dX11_start_7 : decode cX11_start 7 = .ok (.iload_n 2, 1) := by decide +kernel
theorem dX11_start_8 : decode cX11_start 8 = .ok (.invokevirtual 23, 3) := by decide +kernel
theorem dX11_start_11 : decode cX11_start 11 = .ok (.ireturn, 1) := by decide +kernel
theorem dX11_plain_0 : decode cX11_plain 0 = .ok (.aload_n 0, 1) := by decide +kernel
theorem dX11_plain_1 : decode cX11_plain 1 = .ok (.iconst 0, 1) := by decide +kernel
theorem dX11_plain_2 : decode cX11_plain 2 = .ok (.putfield 19, 3) := by decide +kernel
theorem dX11_plain_5 : decode cX11_plain 5 = .ok (.iload_n 1, 1) := by decide +kernel
theorem dX11_plain_6 : decode cX11_plain 6 = .ok (.ireturn, 1) := by decide +kernel
set_option maxRecDepth 20000 in
theorem ggX11_variable_X11_isIn : GoodIn wsX11_variable wsX11_isIn := goodIn_r _ [8] (by decide +kernel) (by decide +kernel)
set_option maxRecDepth 20000 in
theorem gX11_variable_X11_isIn : GoodIn wsX11_variable (va_wsS RX11 27 yX11_isIn wsX11_isIn) := goodIn_app (goodIn_of _ (by decide +kernel)) ggX11_variable_X11_isIn
set_option maxRecDepth 20000 in
theorem ggX11_variable_X11_start : GoodIn wsX11_variable wsX11_start := goodIn_r _ [12, 13, 14, 15, 16, 7, 17, 86, 87, 88] (by decide +kernel) (by decide +kernel)
set_option maxRecDepth 20000 in
theorem gX11_variable_X11_start : GoodIn wsX11_variable (wsV RX11 31 RX11 yX11_start wsX11_start) := goodIn_app (goodIn_of _ (by decide +kernel)) ggX11_variable_X11_start
set_option maxRecDepth 20000 in
theorem ggX11_variable_Jx4a65c_size_8abf5 : GoodIn wsX11_variable wsJx4a65c_size_8abf5 := goodIn_r _ [22, 23, 91, 92, 93] (by decide +kernel) (by decide +kernel)
set_option maxRecDepth 20000 in
theorem gX11_variable_Jx4a65c_size_8abf5 : GoodIn wsX11_variable (wsV RX11 34 RJx4a65c yJx4a65c_size_8abf5 wsJx4a65c_size_8abf5) := goodIn_app (goodIn_of _ (by decide +kernel)) ggX11_variable_Jx4a65c_size_8abf5
set_option maxRecDepth 20000 in
theorem ggX11_variable_X11_refuse : GoodIn wsX11_variable wsX11_refuse := goodIn_r _ [17, 13, 86, 87, 88] (by decide +kernel) (by decide +kernel)
set_option maxRecDepth 20000 in
theorem gX11_variable_X11_refuse : GoodIn wsX11_variable (wsV RX11 23 RX11 yX11_refuse wsX11_refuse) := goodIn_app (goodIn_of _ (by decide +kernel)) ggX11_variable_X11_refuse
set_option maxRecDepth 20000 in
theorem ggX11_variable_X10_init : GoodIn wsX11_variable wsX10_init := goodIn_r _ [26, 27, 28, 29, 30, 31, 89, 90] (by decide +kernel) (by decide +kernel)
set_option maxRecDepth 20000 in
theorem ggX11_variable_Jx4a65c_add_9ea2d : GoodIn wsX11_variable wsJx4a65c_add_9ea2d := goodIn_r _ [35, 36, 37, 38, 23, 39, 40, 41, 21, 42, 43, 44, 45, 46, 47, 48, 49, 50, 51, 52, 53, 54, 55, 56, 57, 58, 59, 60, 61, 62, 63, 64, 65, 66, 67, 68, 69, 70, 71, 72, 73, 74, 75, 76, 77, 78, 79, 80, 81, 82, 83, 84, 85, 91, 92, 93] (by decide +kernel) (by decide +kernel)
set_option maxRecDepth 20000 in
theorem gX11_variable_Jx4a65c_add_9ea2d : GoodIn wsX11_variable (wsV RX11 43 RJx4a65c yJx4a65c_add_9ea2d wsJx4a65c_add_9ea2d) := goodIn_app (goodIn_of _ (by decide +kernel)) ggX11_variable_Jx4a65c_add_9ea2d
theorem dX11_variable_0 : decode cX11_variable 0 = .ok (.aload_n 0, 1) := by decide +kernel
theorem dX11_variable_1 : decode cX11_variable 1 = .ok (.iload_n 1, 1) := by decide +kernel
theorem dX11_variable_2 : decode cX11_variable 2 = .ok (.iconst 0, 1) := by decide +kernel
theorem dX11_variable_3 : decode cX11_variable 3 = .ok (.iconst 3, 1) := by decide +kernel
theorem dX11_variable_4 : decode cX11_variable 4 = .ok (.invokestatic 27, 3) := by decide +kernel
theorem dX11_variable_7 : decode cX11_variable 7 = .ok (.ifCond .ne 7, 3) := by decide +kernel
theorem dX11_variable_10 : decode cX11_variable 10 = .ok (.iconst 1, 1) := by decide +kernel
theorem dX11_variable_11 : decode cX11_variable 11 = .ok (.goto 4, 3) := by decide +kernel
theorem dX11_variable_14 : decode cX11_variable 14 = .ok (.iconst 0, 1) := by decide +kernel
theorem dX11_variable_15 : decode cX11_variable 15 = .ok (.iconst 1, 1) := by decide +kernel
theorem dX11_variable_16 : decode cX11_variable 16 = .ok (.invokevirtual 31, 3) := by decide +kernel
theorem dX11_variable_19 : decode cX11_variable 19 = .ok (.ifCond .ne 28, 3) := by decide +kernel
theorem dX11_variable_22 : decode cX11_variable 22 = .ok (.aload_n 0, 1) := by decide +kernel
theorem dX11_variable_23 : decode cX11_variable 23 = .ok (.aload_n 0, 1) := by decide +kernel
theorem dX11_variable_24 : decode cX11_variable 24 = .ok (.getfield 10, 3) := by decide +kernel
theorem dX11_variable_27 : decode cX11_variable 27 = .ok (.invokevirtual 34, 3) := by decide +kernel
theorem dX11_variable_30 : decode cX11_variable 30 = .ok (.bipush 12, 2) := by decide +kernel
theorem dX11_variable_32 : decode cX11_variable 32 = .ok (.if_icmp .ne 7, 3) := by decide +kernel
theorem dX11_variable_39 : decode cX11_variable 39 = .ok (.iconst 0, 1) := by decide +kernel
theorem dX11_variable_40 : decode cX11_variable 40 = .ok (.iconst 2, 1) := by decide +kernel
theorem dX11_variable_41 : decode cX11_variable 41 = .ok (.invokevirtual 23, 3) := by decide +kernel
theorem dX11_variable_44 : decode cX11_variable 44 = .ok (.ifCond .eq 5, 3) := by decide +kernel
theorem dX11_variable_47 : decode cX11_variable 47 = .ok (.iconst 0, 1) := by decide +kernel
theorem dX11_variable_48 : decode cX11_variable 48 = .ok (.ireturn, 1) := by decide +kernel
theorem dX11_variable_49 : decode cX11_variable 49 = .ok (.aload_n 0, 1) := by decide +kernel
theorem dX11_variable_50 : decode cX11_variable 50 = .ok (.getfield 10, 3) := by decide +kernel
theorem dX11_variable_53 : decode cX11_variable 53 = .ok (.new 38, 3) := by decide +kernel
theorem dX11_variable_56 : decode cX11_variable 56 = .ok (.dup, 1) := by decide +kernel
theorem dX11_variable_57 : decode cX11_variable 57 = .ok (.iload_n 1, 1) := by decide +kernel
theorem dX11_variable_58 : decode cX11_variable 58 = .ok (.iload_n 2, 1) := by decide +kernel
theorem dX11_variable_59 : decode cX11_variable 59 = .ok (.invokespecial 40, 3) := by decide +kernel
theorem dX11_variable_62 : decode cX11_variable 62 = .ok (.invokevirtual 43, 3) := by decide +kernel
theorem dX11_variable_65 : decode cX11_variable 65 = .ok (.pop, 1) := by decide +kernel
theorem dX11_variable_66 : decode cX11_variable 66 = .ok (.aload_n 0, 1) := by decide +kernel
theorem dX11_variable_67 : decode cX11_variable 67 = .ok (.getfield 10, 3) := by decide +kernel
theorem dX11_variable_70 : decode cX11_variable 70 = .ok (.invokevirtual 34, 3) := by decide +kernel
theorem dX11_variable_73 : decode cX11_variable 73 = .ok (.iconst 1, 1) := by decide +kernel
theorem dX11_variable_74 : decode cX11_variable 74 = .ok (.isub, 1) := by decide +kernel
theorem dX11_variable_75 : decode cX11_variable 75 = .ok (.ireturn, 1) := by decide +kernel
set_option maxRecDepth 20000 in
theorem ggX11_isNoVariable_Jx4a65c_size_8abf5 : GoodIn wsX11_isNoVariable wsJx4a65c_size_8abf5 := goodIn_r _ [6, 7, 15, 16, 17] (by decide +kernel) (by decide +kernel)
set_option maxRecDepth 20000 in
theorem gX11_isNoVariable_Jx4a65c_size_8abf5 : GoodIn wsX11_isNoVariable (wsV RX11 34 RJx4a65c yJx4a65c_size_8abf5 wsJx4a65c_size_8abf5) := goodIn_app (goodIn_of _ (by decide +kernel)) ggX11_isNoVariable_Jx4a65c_size_8abf5
set_option maxRecDepth 20000 in
theorem ggX11_isNoVariable_X11_isIn : GoodIn wsX11_isNoVariable wsX11_isIn := goodIn_r _ [11] (by decide +kernel) (by decide +kernel)
set_option maxRecDepth 20000 in
theorem gX11_isNoVariable_X11_isIn : GoodIn wsX11_isNoVariable (va_wsS RX11 27 yX11_isIn wsX11_isIn) := goodIn_app (goodIn_of _ (by decide +kernel)) ggX11_isNoVariable_X11_isIn
theorem dX11_isNoVariable_0 : decode cX11_isNoVariable 0 = .ok (.iload_n 1, 1) := by decide +kernel
theorem dX11_isNoVariable_1 : decode cX11_isNoVariable 1 = .ok (.iconst 0, 1) := by decide +kernel
theorem dX11_isNoVariable_2 : decode cX11_isNoVariable 2 = .ok (.aload_n 0, 1) := by decide +kernel
theorem dX11_isNoVariable_3 : decode cX11_isNoVariable 3 = .ok (.getfield 10, 3) := by decide +kernel
theorem dX11_isNoVariable_6 : decode cX11_isNoVariable 6 = .ok (.invokevirtual 34, 3) := by decide +kernel
theorem dX11_isNoVariable_9 : decode cX11_isNoVariable 9 = .ok (.iconst 1, 1) := by decide +kernel
theorem dX11_isNoVariable_10 : decode cX11_isNoVariable 10 = .ok (.isub, 1) := by decide +kernel
theorem dX11_isNoVariable_11 : decode cX11_isNoVariable 11 = .ok (.invokestatic 27, 3) := by decide +kernel
theorem dX11_isNoVariable_14 : decode cX11_isNoVariable 14 = .ok (.ifCond .ne 7, 3) := by decide +kernel
theorem dX11_isNoVariable_17 : decode cX11_isNoVariable 17 = .ok (.iconst 1, 1) := by decide +kernel
theorem dX11_isNoVariable_18 : decode cX11_isNoVariable 18 = .ok (.goto 4, 3) := by decide +kernel
theorem dX11_isNoVariable_22 : decode cX11_isNoVariable 22 = .ok (.ireturn, 1) := by decide +kernel
set_option maxRecDepth 20000 in
theorem ggX11_add_Jx4a65c_size_8abf5 : GoodIn wsX11_add wsJx4a65c_size_8abf5 := goodIn_r _ [9, 10, 92, 93, 94] (by decide +kernel) (by decide +kernel)
set_option maxRecDepth 20000 in
theorem gX11_add_Jx4a65c_size_8abf5 : GoodIn wsX11_add (wsV RX11 34 RJx4a65c yJx4a65c_size_8abf5 wsJx4a65c_size_8abf5) := goodIn_app (goodIn_of _ (by decide +kernel)) ggX11_add_Jx4a65c_size_8abf5
set_option maxRecDepth 20000 in
theorem ggX11_add_X11_refuse : GoodIn wsX11_add wsX11_refuse := goodIn_r _ [15, 16, 83, 84, 85] (by decide +kernel) (by decide +kernel)
set_option maxRecDepth 20000 in
theorem gX11_add_X11_refuse : GoodIn wsX11_add (wsV RX11 23 RX11 yX11_refuse wsX11_refuse) := goodIn_app (goodIn_of _ (by decide +kernel)) ggX11_add_X11_refuse
set_option maxRecDepth 20000 in
theorem ggX11_add_X9_init : GoodIn wsX11_add wsX9_init := goodIn_r _ [19, 20, 21, 22, 23, 24, 25, 26, 27, 28, 86, 87, 88, 89, 90, 91] (by decide +kernel) (by decide +kernel)
set_option maxRecDepth 20000 in
theorem ggX11_add_Jx4a65c_add_9ea2d : GoodIn wsX11_add wsJx4a65c_add_9ea2d := goodIn_r _ [32, 33, 34, 35, 10, 36, 37, 38, 8, 39, 40, 41, 42, 43, 44, 45, 46, 47, 48, 49, 50, 51, 52, 53, 54, 55, 56, 57, 58, 59, 60, 61, 62, 63, 64, 65, 66, 67, 68, 69, 70, 71, 72, 73, 74, 75, 76, 77, 78, 79, 80, 81, 82, 92, 93, 94] (by decide +kernel) (by decide +kernel)
set_option maxRecDepth 20000 in
theorem gX11_add_Jx4a65c_add_9ea2d : GoodIn wsX11_add (wsV RX11 43 RJx4a65c yJx4a65c_add_9ea2d wsJx4a65c_add_9ea2d) := goodIn_app (goodIn_of _ (by decide +kernel)) ggX11_add_Jx4a65c_add_9ea2d
theorem dX11_add_0 : decode cX11_add 0 = .ok (.aload_n 0, 1) := by decide +kernel
theorem dX11_add_1 : decode cX11_add 1 = .ok (.aload_n 0, 1) := by decide +kernel
theorem dX11_add_2 : decode cX11_add 2 = .ok (.getfield 16, 3) := by decide +kernel
theorem dX11_add_5 : decode cX11_add 5 = .ok (.invokevirtual 34, 3) := by decide +kernel
theorem dX11_add_8 : decode cX11_add 8 = .ok (.bipush 40, 2) := by decide +kernel
theorem dX11_add_10 : decode cX11_add 10 = .ok (.if_icmp .ne 7, 3) := by decide +kernel
theorem dX11_add_17 : decode cX11_add 17 = .ok (.iconst 0, 1) := by decide +kernel
theorem dX11_add_18 : decode cX11_add 18 = .ok (.iload 7, 2) := by decide +kernel
theorem dX11_add_20 : decode cX11_add 20 = .ok (.invokevirtual 23, 3) := by decide +kernel
theorem dX11_add_23 : decode cX11_add 23 = .ok (.ifCond .eq 5, 3) := by decide +kernel
theorem dX11_add_28 : decode cX11_add 28 = .ok (.aload_n 0, 1) := by decide +kernel
theorem dX11_add_29 : decode cX11_add 29 = .ok (.getfield 16, 3) := by decide +kernel
theorem dX11_add_32 : decode cX11_add 32 = .ok (.new 54, 3) := by decide +kernel
theorem dX11_add_35 : decode cX11_add 35 = .ok (.dup, 1) := by decide +kernel
theorem dX11_add_36 : decode cX11_add 36 = .ok (.iload_n 1, 1) := by decide +kernel
theorem dX11_add_37 : decode cX11_add 37 = .ok (.iload_n 2, 1) := by decide +kernel
theorem dX11_add_38 : decode cX11_add 38 = .ok (.iload_n 3, 1) := by decide +kernel
theorem dX11_add_39 : decode cX11_add 39 = .ok (.iload 4, 2) := by decide +kernel
theorem dX11_add_41 : decode cX11_add 41 = .ok (.iload 5, 2) := by decide +kernel
theorem dX11_add_43 : decode cX11_add 43 = .ok (.iload 6, 2) := by decide +kernel
theorem dX11_add_45 : decode cX11_add 45 = .ok (.invokespecial 56, 3) := by decide +kernel
theorem dX11_add_48 : decode cX11_add 48 = .ok (.invokevirtual 43, 3) := by decide +kernel
theorem dX11_add_51 : decode cX11_add 51 = .ok (.pop, 1) := by decide +kernel
theorem dX11_add_52 : decode cX11_add 52 = .ok (.aload_n 0, 1) := by decide +kernel
theorem dX11_add_53 : decode cX11_add 53 = .ok (.getfield 16, 3) := by decide +kernel
theorem dX11_add_56 : decode cX11_add 56 = .ok (.invokevirtual 34, 3) := by decide +kernel
theorem dX11_add_59 : decode cX11_add 59 = .ok (.iconst 1, 1) := by decide +kernel
theorem dX11_add_60 : decode cX11_add 60 = .ok (.isub, 1) := by decide +kernel
theorem dX11_add_61 : decode cX11_add 61 = .ok (.ireturn, 1) := by decide +kernel
set_option maxRecDepth 20000 in
theorem ggX11_write_X11_isNoVariable : GoodIn wsX11_write wsX11_isNoVariable := goodIn_r _ [7, 1, 8, 9, 10, 11, 12, 13, 14, 15, 6, 16, 131, 132, 133, 134, 135, 136] (by decide +kernel) (by decide +kernel)
set_option maxRecDepth 20000 in
theorem gX11_write_X11_isNoVariable : GoodIn wsX11_write (wsV RX11 62 RX11 yX11_isNoVariable wsX11_isNoVariable) := goodIn_app (goodIn_of _ (by decide +kernel)) ggX11_write_X11_isNoVariable
set_option maxRecDepth 20000 in
theorem ggX11_write_X11_start : GoodIn wsX11_write wsX11_start := goodIn_r _ [20, 21, 22, 23, 24, 6, 25, 131, 132, 133] (by decide +kernel) (by decide +kernel)
set_option maxRecDepth 20000 in
theorem gX11_write_X11_start : GoodIn wsX11_write (wsV RX11 31 RX11 yX11_start wsX11_start) := goodIn_app (goodIn_of _ (by decide +kernel)) ggX11_write_X11_start
theorem dX11_write_0 : decode cX11_write 0 = .ok (.aload_n 0, 1) := by decide +kernel
theorem dX11_write_1 : decode cX11_write 1 = .ok (.aload_n 0, 1) := by decide +kernel
theorem dX11_write_2 : decode cX11_write 2 = .ok (.iload_n 1, 1) := by decide +kernel
theorem dX11_write_3 : decode cX11_write 3 = .ok (.invokevirtual 62, 3) := by decide +kernel
theorem dX11_write_6 : decode cX11_write 6 = .ok (.iconst 1, 1) := by decide +kernel
theorem dX11_write_7 : decode cX11_write 7 = .ok (.invokevirtual 31, 3) := by decide +kernel
theorem dX11_write_10 : decode cX11_write 10 = .ok (.ifCond .eq 5, 3) := by decide +kernel
theorem dX11_write_13 : decode cX11_write 13 = .ok (.iconst 0, 1) := by decide +kernel
theorem dX11_write_14 : decode cX11_write 14 = .ok (.ireturn, 1) := by decide +kernel
set_option maxRecDepth 20000 in
theorem ggX11_move_X11_isNoVariable : GoodIn wsX11_move wsX11_isNoVariable := goodIn_r _ [5, 6, 7, 8, 9, 10, 11, 12, 13, 14, 4, 15, 125, 126, 127, 128, 129, 130] (by decide +kernel) (by decide +kernel)
set_option maxRecDepth 20000 in
theorem gX11_move_X11_isNoVariable : GoodIn wsX11_move (wsV RX11 62 RX11 yX11_isNoVariable wsX11_isNoVariable) := goodIn_app (goodIn_of _ (by decide +kernel)) ggX11_move_X11_isNoVariable
set_option maxRecDepth 20000 in
theorem ggX11_move_X11_start : GoodIn wsX11_move wsX11_start := goodIn_r _ [19, 20, 21, 22, 23, 4, 24, 125, 126, 127] (by decide +kernel) (by decide +kernel)
set_option maxRecDepth 20000 in
theorem gX11_move_X11_start : GoodIn wsX11_move (wsV RX11 31 RX11 yX11_start wsX11_start) := goodIn_app (goodIn_of _ (by decide +kernel)) ggX11_move_X11_start
theorem dX11_move_0 : decode cX11_move 0 = .ok (.aload_n 0, 1) := by decide +kernel
theorem dX11_move_1 : decode cX11_move 1 = .ok (.aload_n 0, 1) := by decide +kernel
theorem dX11_move_2 : decode cX11_move 2 = .ok (.iload_n 1, 1) := by decide +kernel
theorem dX11_move_3 : decode cX11_move 3 = .ok (.invokevirtual 62, 3) := by decide +kernel
theorem dX11_move_6 : decode cX11_move 6 = .ok (.ifCond .ne 11, 3) := by decide +kernel
theorem dX11_move_17 : decode cX11_move 17 = .ok (.iconst 1, 1) := by decide +kernel
theorem dX11_move_18 : decode cX11_move 18 = .ok (.goto 4, 3) := by decide +kernel
theorem dX11_move_22 : decode cX11_move 22 = .ok (.iconst 1, 1) := by decide +kernel
theorem dX11_move_23 : decode cX11_move 23 = .ok (.invokevirtual 31, 3) := by decide +kernel
theorem dX11_move_26 : decode cX11_move 26 = .ok (.ifCond .eq 5, 3) := by decide +kernel
theorem dX11_move_29 : decode cX11_move 29 = .ok (.iconst 0, 1) := by decide +kernel
theorem dX11_move_30 : decode cX11_move 30 = .ok (.ireturn, 1) := by decide +kernel
set_option maxRecDepth 20000 in
theorem ggX11_lend_X11_isNoVariable : GoodIn wsX11_lend wsX11_isNoVariable := goodIn_r _ [7, 1, 8, 9, 10, 11, 12, 13, 14, 15, 6, 16, 131, 132, 133, 134, 135, 136] (by decide +kernel) (by decide +kernel)
set_option maxRecDepth 20000 in
theorem gX11_lend_X11_isNoVariable : GoodIn wsX11_lend (wsV RX11 62 RX11 yX11_isNoVariable wsX11_isNoVariable) := goodIn_app (goodIn_of _ (by decide +kernel)) ggX11_lend_X11_isNoVariable
set_option maxRecDepth 20000 in
theorem ggX11_lend_X11_start : GoodIn wsX11_lend wsX11_start := goodIn_r _ [20, 21, 22, 23, 24, 6, 25, 131, 132, 133] (by decide +kernel) (by decide +kernel)
set_option maxRecDepth 20000 in
theorem gX11_lend_X11_start : GoodIn wsX11_lend (wsV RX11 31 RX11 yX11_start wsX11_start) := goodIn_app (goodIn_of _ (by decide +kernel)) ggX11_lend_X11_start
theorem dX11_lend_0 : decode cX11_lend 0 = .ok (.aload_n 0, 1) := by decide +kernel
theorem dX11_lend_1 : decode cX11_lend 1 = .ok (.aload_n 0, 1) := by decide +kernel
theorem dX11_lend_2 : decode cX11_lend 2 = .ok (.iload_n 1, 1) := by decide +kernel
theorem dX11_lend_3 : decode cX11_lend 3 = .ok (.invokevirtual 62, 3) := by decide +kernel
theorem dX11_lend_6 : decode cX11_lend 6 = .ok (.ifCond .ne 11, 3) := by decide +kernel
theorem dX11_lend_17 : decode cX11_lend 17 = .ok (.iconst 1, 1) := by decide +kernel
theorem dX11_lend_18 : decode cX11_lend 18 = .ok (.goto 4, 3) := by decide +kernel
theorem dX11_lend_22 : decode cX11_lend 22 = .ok (.iconst 1, 1) := by decide +kernel
theorem dX11_lend_23 : decode cX11_lend 23 = .ok (.invokevirtual 31, 3) := by decide +kernel
theorem dX11_lend_26 : decode cX11_lend 26 = .ok (.ifCond .eq 5, 3) := by decide +kernel
theorem dX11_lend_29 : decode cX11_lend 29 = .ok (.iconst 0, 1) := by decide +kernel
theorem dX11_lend_30 : decode cX11_lend 30 = .ok (.ireturn, 1) := by decide +kernel
set_option maxRecDepth 20000 in
theorem ggX11_relend_X11_isNoVariable : GoodIn wsX11_relend wsX11_isNoVariable := goodIn_r _ [7, 1, 8, 9, 10, 11, 12, 13, 14, 15, 6, 16, 127, 128, 129, 130, 131, 132] (by decide +kernel) (by decide +kernel)
set_option maxRecDepth 20000 in
theorem gX11_relend_X11_isNoVariable : GoodIn wsX11_relend (wsV RX11 62 RX11 yX11_isNoVariable wsX11_isNoVariable) := goodIn_app (goodIn_of _ (by decide +kernel)) ggX11_relend_X11_isNoVariable
set_option maxRecDepth 20000 in
theorem ggX11_relend_X11_start : GoodIn wsX11_relend wsX11_start := goodIn_r _ [20, 21, 22, 23, 24, 6, 25, 127, 128, 129] (by decide +kernel) (by decide +kernel)
set_option maxRecDepth 20000 in
theorem gX11_relend_X11_start : GoodIn wsX11_relend (wsV RX11 31 RX11 yX11_start wsX11_start) := goodIn_app (goodIn_of _ (by decide +kernel)) ggX11_relend_X11_start
theorem dX11_relend_0 : decode cX11_relend 0 = .ok (.aload_n 0, 1) := by decide +kernel
theorem dX11_relend_1 : decode cX11_relend 1 = .ok (.aload_n 0, 1) := by decide +kernel
theorem dX11_relend_2 : decode cX11_relend 2 = .ok (.iload_n 1, 1) := by decide +kernel
theorem dX11_relend_3 : decode cX11_relend 3 = .ok (.invokevirtual 62, 3) := by decide +kernel
theorem dX11_relend_6 : decode cX11_relend 6 = .ok (.ifCond .ne 11, 3) := by decide +kernel
theorem dX11_relend_17 : decode cX11_relend 17 = .ok (.iconst 1, 1) := by decide +kernel
theorem dX11_relend_18 : decode cX11_relend 18 = .ok (.goto 4, 3) := by decide +kernel
theorem dX11_relend_22 : decode cX11_relend 22 = .ok (.iconst 1, 1) := by decide +kernel
theorem dX11_relend_23 : decode cX11_relend 23 = .ok (.invokevirtual 31, 3) := by decide +kernel
theorem dX11_relend_26 : decode cX11_relend 26 = .ok (.ifCond .eq 5, 3) := by decide +kernel
theorem dX11_relend_29 : decode cX11_relend 29 = .ok (.iconst 0, 1) := by decide +kernel
theorem dX11_relend_30 : decode cX11_relend 30 = .ok (.ireturn, 1) := by decide +kernel
set_option maxRecDepth 20000 in
theorem ggX11_read_X11_isNoVariable : GoodIn wsX11_read wsX11_isNoVariable := goodIn_r _ [7, 1, 8, 9, 10, 11, 12, 13, 14, 15, 6, 16, 131, 132, 133, 134, 135, 136] (by decide +kernel) (by decide +kernel)
set_option maxRecDepth 20000 in
theorem gX11_read_X11_isNoVariable : GoodIn wsX11_read (wsV RX11 62 RX11 yX11_isNoVariable wsX11_isNoVariable) := goodIn_app (goodIn_of _ (by decide +kernel)) ggX11_read_X11_isNoVariable
set_option maxRecDepth 20000 in
theorem ggX11_read_X11_start : GoodIn wsX11_read wsX11_start := goodIn_r _ [20, 21, 22, 23, 24, 6, 25, 131, 132, 133] (by decide +kernel) (by decide +kernel)
set_option maxRecDepth 20000 in
theorem gX11_read_X11_start : GoodIn wsX11_read (wsV RX11 31 RX11 yX11_start wsX11_start) := goodIn_app (goodIn_of _ (by decide +kernel)) ggX11_read_X11_start
theorem dX11_read_0 : decode cX11_read 0 = .ok (.aload_n 0, 1) := by decide +kernel
theorem dX11_read_1 : decode cX11_read 1 = .ok (.aload_n 0, 1) := by decide +kernel
theorem dX11_read_2 : decode cX11_read 2 = .ok (.iload_n 1, 1) := by decide +kernel
theorem dX11_read_3 : decode cX11_read 3 = .ok (.invokevirtual 62, 3) := by decide +kernel
theorem dX11_read_6 : decode cX11_read 6 = .ok (.iconst 1, 1) := by decide +kernel
theorem dX11_read_7 : decode cX11_read 7 = .ok (.invokevirtual 31, 3) := by decide +kernel
theorem dX11_read_10 : decode cX11_read 10 = .ok (.ifCond .eq 5, 3) := by decide +kernel
theorem dX11_read_13 : decode cX11_read 13 = .ok (.iconst 0, 1) := by decide +kernel
theorem dX11_read_14 : decode cX11_read 14 = .ok (.ireturn, 1) := by decide +kernel
set_option maxRecDepth 20000 in
theorem ggX11_drop_X11_isNoVariable : GoodIn wsX11_drop wsX11_isNoVariable := goodIn_r _ [5, 6, 7, 8, 9, 10, 11, 12, 13, 14, 4, 15, 99, 100, 101, 102, 103, 104] (by decide +kernel) (by decide +kernel)
set_option maxRecDepth 20000 in
theorem gX11_drop_X11_isNoVariable : GoodIn wsX11_drop (wsV RX11 62 RX11 yX11_isNoVariable wsX11_isNoVariable) := goodIn_app (goodIn_of _ (by decide +kernel)) ggX11_drop_X11_isNoVariable
set_option maxRecDepth 20000 in
theorem ggX11_drop_X11_start : GoodIn wsX11_drop wsX11_start := goodIn_r _ [19, 20, 21, 22, 23, 4, 24, 99, 100, 101] (by decide +kernel) (by decide +kernel)
set_option maxRecDepth 20000 in
theorem gX11_drop_X11_start : GoodIn wsX11_drop (wsV RX11 31 RX11 yX11_start wsX11_start) := goodIn_app (goodIn_of _ (by decide +kernel)) ggX11_drop_X11_start
theorem dX11_drop_0 : decode cX11_drop 0 = .ok (.aload_n 0, 1) := by decide +kernel
theorem dX11_drop_1 : decode cX11_drop 1 = .ok (.aload_n 0, 1) := by decide +kernel
theorem dX11_drop_2 : decode cX11_drop 2 = .ok (.iload_n 1, 1) := by decide +kernel
theorem dX11_drop_3 : decode cX11_drop 3 = .ok (.invokevirtual 62, 3) := by decide +kernel
theorem dX11_drop_6 : decode cX11_drop 6 = .ok (.iconst 1, 1) := by decide +kernel
theorem dX11_drop_7 : decode cX11_drop 7 = .ok (.invokevirtual 31, 3) := by decide +kernel
theorem dX11_drop_10 : decode cX11_drop 10 = .ok (.ifCond .eq 7, 3) := by decide +kernel
theorem dX11_drop_13 : decode cX11_drop 13 = .ok (.iconst 0, 1) := by decide +kernel
theorem dX11_drop_14 : decode cX11_drop 14 = .ok (.goto 14, 3) := by decide +kernel
theorem dX11_drop_28 : decode cX11_drop 28 = .ok (.ireturn, 1) := by decide +kernel
set_option maxRecDepth 20000 in
theorem ggX11_call_X11_isNoVariable : GoodIn wsX11_call wsX11_isNoVariable := goodIn_r _ [5, 6, 7, 8, 9, 10, 11, 12, 13, 14, 4, 15, 99, 100, 101, 102, 103, 104] (by decide +kernel) (by decide +kernel)
set_option maxRecDepth 20000 in
theorem gX11_call_X11_isNoVariable : GoodIn wsX11_call (wsV RX11 62 RX11 yX11_isNoVariable wsX11_isNoVariable) := goodIn_app (goodIn_of _ (by decide +kernel)) ggX11_call_X11_isNoVariable
set_option maxRecDepth 20000 in
theorem ggX11_call_X11_start : GoodIn wsX11_call wsX11_start := goodIn_r _ [19, 20, 21, 22, 23, 4, 24, 99, 100, 101] (by decide +kernel) (by decide +kernel)
set_option maxRecDepth 20000 in
theorem gX11_call_X11_start : GoodIn wsX11_call (wsV RX11 31 RX11 yX11_start wsX11_start) := goodIn_app (goodIn_of _ (by decide +kernel)) ggX11_call_X11_start
theorem dX11_call_0 : decode cX11_call 0 = .ok (.aload_n 0, 1) := by decide +kernel
theorem dX11_call_1 : decode cX11_call 1 = .ok (.aload_n 0, 1) := by decide +kernel
theorem dX11_call_2 : decode cX11_call 2 = .ok (.iload_n 1, 1) := by decide +kernel
theorem dX11_call_3 : decode cX11_call 3 = .ok (.invokevirtual 62, 3) := by decide +kernel
theorem dX11_call_6 : decode cX11_call 6 = .ok (.ifCond .ne 29, 3) := by decide +kernel
theorem dX11_call_35 : decode cX11_call 35 = .ok (.iconst 1, 1) := by decide +kernel
theorem dX11_call_36 : decode cX11_call 36 = .ok (.goto 4, 3) := by decide +kernel
theorem dX11_call_40 : decode cX11_call 40 = .ok (.iconst 1, 1) := by decide +kernel
theorem dX11_call_41 : decode cX11_call 41 = .ok (.invokevirtual 31, 3) := by decide +kernel
theorem dX11_call_44 : decode cX11_call 44 = .ok (.ifCond .eq 5, 3) := by decide +kernel
theorem dX11_call_47 : decode cX11_call 47 = .ok (.iconst 0, 1) := by decide +kernel
theorem dX11_call_48 : decode cX11_call 48 = .ok (.ireturn, 1) := by decide +kernel
set_option maxRecDepth 20000 in
theorem ggX11_branch_X11_isIn : GoodIn wsX11_branch wsX11_isIn := goodIn_r _ [4] (by decide +kernel) (by decide +kernel)
set_option maxRecDepth 20000 in
theorem gX11_branch_X11_isIn : GoodIn wsX11_branch (va_wsS RX11 27 yX11_isIn wsX11_isIn) := goodIn_app (goodIn_of _ (by decide +kernel)) ggX11_branch_X11_isIn
set_option maxRecDepth 20000 in
theorem ggX11_branch_X11_start : GoodIn wsX11_branch wsX11_start := goodIn_r _ [8, 9, 10, 11, 12, 3, 13, 94, 95, 96] (by decide +kernel) (by decide +kernel)
set_option maxRecDepth 20000 in
theorem gX11_branch_X11_start : GoodIn wsX11_branch (wsV RX11 31 RX11 yX11_start wsX11_start) := goodIn_app (goodIn_of _ (by decide +kernel)) ggX11_branch_X11_start
set_option maxRecDepth 20000 in
theorem ggX11_branch_X11_add : GoodIn wsX11_branch wsX11_add := goodIn_r _ [17, 18, 19, 20, 21, 22, 23, 24, 25, 26, 27, 10, 11, 12, 3, 13, 9, 28, 29, 30, 31, 32, 33, 34, 35, 36, 37, 38, 39, 40, 41, 42, 43, 44, 45, 46, 47, 48, 49, 50, 51, 52, 53, 54, 55, 56, 57, 58, 59, 60, 61, 62, 63, 64, 65, 66, 67, 68, 69, 70, 71, 72, 73, 74, 75, 76, 77, 78, 79, 80, 81, 82, 83, 84, 85, 86, 87, 88, 89, 90, 91, 92, 93, 94, 95, 96, 97, 98, 99, 100, 101, 102, 103, 104, 105] (by decide +kernel) (by decide +kernel)
set_option maxRecDepth 20000 in
theorem gX11_branch_X11_add : GoodIn wsX11_branch (wsV RX11 74 RX11 yX11_add wsX11_add) := goodIn_app (goodIn_of _ (by decide +kernel)) ggX11_branch_X11_add
theorem dX11_branch_0 : decode cX11_branch 0 = .ok (.aload_n 0, 1) := by decide +kernel
theorem dX11_branch_1 : decode cX11_branch 1 = .ok (.iload_n 2, 1) := by decide +kernel
theorem dX11_branch_2 : decode cX11_branch 2 = .ok (.iconst 0, 1) := by decide +kernel
theorem dX11_branch_3 : decode cX11_branch 3 = .ok (.bipush 40, 2) := by decide +kernel
theorem dX11_branch_5 : decode cX11_branch 5 = .ok (.invokestatic 27, 3) := by decide +kernel
theorem dX11_branch_8 : decode cX11_branch 8 = .ok (.ifCond .ne 7, 3) := by decide +kernel
theorem dX11_branch_11 : decode cX11_branch 11 = .ok (.iconst 1, 1) := by decide +kernel
theorem dX11_branch_12 : decode cX11_branch 12 = .ok (.goto 4, 3) := by decide +kernel
theorem dX11_branch_15 : decode cX11_branch 15 = .ok (.iconst 0, 1) := by decide +kernel
theorem dX11_branch_16 : decode cX11_branch 16 = .ok (.iconst 1, 1) := by decide +kernel
theorem dX11_branch_17 : decode cX11_branch 17 = .ok (.invokevirtual 31, 3) := by decide +kernel
theorem dX11_branch_20 : decode cX11_branch 20 = .ok (.ifCond .eq 7, 3) := by decide +kernel
theorem dX11_branch_23 : decode cX11_branch 23 = .ok (.iconst 0, 1) := by decide +kernel
theorem dX11_branch_24 : decode cX11_branch 24 = .ok (.goto 24, 3) := by decide +kernel
theorem dX11_branch_27 : decode cX11_branch 27 = .ok (.aload_n 0, 1) := by decide +kernel
theorem dX11_branch_28 : decode cX11_branch 28 = .ok (.iload_n 1, 1) := by decide +kernel
theorem dX11_branch_29 : decode cX11_branch 29 = .ok (.ifCond .eq 8, 3) := by decide +kernel
theorem dX11_branch_32 : decode cX11_branch 32 = .ok (.bipush 8, 2) := by decide +kernel
theorem dX11_branch_34 : decode cX11_branch 34 = .ok (.goto 5, 3) := by decide +kernel
theorem dX11_branch_37 : decode cX11_branch 37 = .ok (.bipush 7, 2) := by decide +kernel
theorem dX11_branch_39 : decode cX11_branch 39 = .ok (.iconst (-1), 1) := by decide +kernel
theorem dX11_branch_40 : decode cX11_branch 40 = .ok (.iconst (-1), 1) := by decide +kernel
theorem dX11_branch_41 : decode cX11_branch 41 = .ok (.iconst (-1), 1) := by decide +kernel
theorem dX11_branch_42 : decode cX11_branch 42 = .ok (.iconst 0, 1) := by decide +kernel
theorem dX11_branch_43 : decode cX11_branch 43 = .ok (.iload_n 2, 1) := by decide +kernel
theorem dX11_branch_44 : decode cX11_branch 44 = .ok (.iconst 2, 1) := by decide +kernel
theorem dX11_branch_45 : decode cX11_branch 45 = .ok (.invokevirtual 74, 3) := by decide +kernel
theorem dX11_branch_48 : decode cX11_branch 48 = .ok (.ireturn, 1) := by decide +kernel
set_option maxRecDepth 20000 in
theorem ggX11_finish_X11_isNoVariable : GoodIn wsX11_finish wsX11_isNoVariable := goodIn_r _ [5, 6, 7, 8, 9, 10, 11, 12, 13, 14, 4, 15, 99, 100, 101, 102, 103, 104] (by decide +kernel) (by decide +kernel)
set_option maxRecDepth 20000 in
theorem gX11_finish_X11_isNoVariable : GoodIn wsX11_finish (wsV RX11 62 RX11 yX11_isNoVariable wsX11_isNoVariable) := goodIn_app (goodIn_of _ (by decide +kernel)) ggX11_finish_X11_isNoVariable
set_option maxRecDepth 20000 in
theorem ggX11_finish_X11_start : GoodIn wsX11_finish wsX11_start := goodIn_r _ [19, 20, 21, 22, 23, 4, 24, 99, 100, 101] (by decide +kernel) (by decide +kernel)
set_option maxRecDepth 20000 in
theorem gX11_finish_X11_start : GoodIn wsX11_finish (wsV RX11 31 RX11 yX11_start wsX11_start) := goodIn_app (goodIn_of _ (by decide +kernel)) ggX11_finish_X11_start
set_option maxRecDepth 20000 in
theorem ggX11_finish_X11_add : GoodIn wsX11_finish wsX11_add := goodIn_r _ [28, 29, 30, 31, 32, 7, 8, 9, 10, 11, 12, 21, 22, 23, 4, 24, 20, 33, 34, 35, 36, 37, 38, 39, 40, 41, 42, 43, 44, 45, 46, 47, 48, 49, 50, 51, 52, 53, 54, 55, 56, 57, 58, 59, 60, 61, 62, 63, 64, 65, 66, 67, 68, 69, 70, 71, 72, 73, 74, 75, 76, 77, 78, 79, 80, 81, 82, 83, 84, 85, 86, 87, 88, 89, 90, 91, 92, 93, 94, 95, 96, 97, 98, 99, 100, 101, 105, 106, 107, 108, 109, 110, 102, 103, 104] (by decide +kernel) (by decide +kernel)
set_option maxRecDepth 20000 in
theorem gX11_finish_X11_add : GoodIn wsX11_finish (wsV RX11 74 RX11 yX11_add wsX11_add) := goodIn_app (goodIn_of _ (by decide +kernel)) ggX11_finish_X11_add
theorem dX11_finish_0 : decode cX11_finish 0 = .ok (.aload_n 0, 1) := by decide +kernel
theorem dX11_finish_1 : decode cX11_finish 1 = .ok (.iload_n 1, 1) := by decide +kernel
theorem dX11_finish_2 : decode cX11_finish 2 = .ok (.iconst (-1), 1) := by decide +kernel
theorem dX11_finish_3 : decode cX11_finish 3 = .ok (.if_icmp .eq 15, 3) := by decide +kernel
theorem dX11_finish_6 : decode cX11_finish 6 = .ok (.aload_n 0, 1) := by decide +kernel
theorem dX11_finish_7 : decode cX11_finish 7 = .ok (.iload_n 1, 1) := by decide +kernel
theorem dX11_finish_8 : decode cX11_finish 8 = .ok (.invokevirtual 62, 3) := by decide +kernel
theorem dX11_finish_11 : decode cX11_finish 11 = .ok (.ifCond .eq 7, 3) := by decide +kernel
theorem dX11_finish_14 : decode cX11_finish 14 = .ok (.iconst 1, 1) := by decide +kernel
theorem dX11_finish_15 : decode cX11_finish 15 = .ok (.goto 4, 3) := by decide +kernel
theorem dX11_finish_18 : decode cX11_finish 18 = .ok (.iconst 0, 1) := by decide +kernel
theorem dX11_finish_19 : decode cX11_finish 19 = .ok (.iconst 1, 1) := by decide +kernel
theorem dX11_finish_20 : decode cX11_finish 20 = .ok (.invokevirtual 31, 3) := by decide +kernel
theorem dX11_finish_23 : decode cX11_finish 23 = .ok (.ifCond .eq 7, 3) := by decide +kernel
theorem dX11_finish_26 : decode cX11_finish 26 = .ok (.iconst 0, 1) := by decide +kernel
theorem dX11_finish_27 : decode cX11_finish 27 = .ok (.goto 15, 3) := by decide +kernel
theorem dX11_finish_30 : decode cX11_finish 30 = .ok (.aload_n 0, 1) := by decide +kernel
theorem dX11_finish_31 : decode cX11_finish 31 = .ok (.bipush 9, 2) := by decide +kernel
theorem dX11_finish_33 : decode cX11_finish 33 = .ok (.iconst (-1), 1) := by decide +kernel
theorem dX11_finish_34 : decode cX11_finish 34 = .ok (.iload_n 1, 1) := by decide +kernel
theorem dX11_finish_35 : decode cX11_finish 35 = .ok (.iconst (-1), 1) := by decide +kernel
theorem dX11_finish_36 : decode cX11_finish 36 = .ok (.iconst 0, 1) := by decide +kernel
theorem dX11_finish_37 : decode cX11_finish 37 = .ok (.iconst 0, 1) := by decide +kernel
theorem dX11_finish_38 : decode cX11_finish 38 = .ok (.iconst 2, 1) := by decide +kernel
theorem dX11_finish_39 : decode cX11_finish 39 = .ok (.invokevirtual 74, 3) := by decide +kernel
theorem dX11_finish_42 : decode cX11_finish 42 = .ok (.ireturn, 1) := by decide +kernel
set_option maxRecDepth 20000 in
theorem ggX11_isNoStatement_Jx4a65c_size_8abf5 : GoodIn wsX11_isNoStatement wsJx4a65c_size_8abf5 := goodIn_r _ [6, 7, 24, 25, 26] (by decide +kernel) (by decide +kernel)
set_option maxRecDepth 20000 in
theorem gX11_isNoStatement_Jx4a65c_size_8abf5 : GoodIn wsX11_isNoStatement (wsV RX11 34 RJx4a65c yJx4a65c_size_8abf5 wsJx4a65c_size_8abf5) := goodIn_app (goodIn_of _ (by decide +kernel)) ggX11_isNoStatement_Jx4a65c_size_8abf5
set_option maxRecDepth 20000 in
theorem ggX11_isNoStatement_X11_isIn : GoodIn wsX11_isNoStatement wsX11_isIn := goodIn_r _ [11] (by decide +kernel) (by decide +kernel)
set_option maxRecDepth 20000 in
theorem gX11_isNoStatement_X11_isIn : GoodIn wsX11_isNoStatement (va_wsS RX11 27 yX11_isIn wsX11_isIn) := goodIn_app (goodIn_of _ (by decide +kernel)) ggX11_isNoStatement_X11_isIn
set_option maxRecDepth 20000 in
theorem ggX11_isNoStatement_X11_start : GoodIn wsX11_isNoStatement wsX11_start := goodIn_r _ [15, 16, 17, 18, 19, 10, 20, 21, 22, 23] (by decide +kernel) (by decide +kernel)
set_option maxRecDepth 20000 in
theorem gX11_isNoStatement_X11_start : GoodIn wsX11_isNoStatement (wsV RX11 31 RX11 yX11_start wsX11_start) := goodIn_app (goodIn_of _ (by decide +kernel)) ggX11_isNoStatement_X11_start
theorem dX11_isNoStatement_0 : decode cX11_isNoStatement 0 = .ok (.aload_n 0, 1) := by decide +kernel
theorem dX11_isNoStatement_1 : decode cX11_isNoStatement 1 = .ok (.iload_n 1, 1) := by decide +kernel
theorem dX11_isNoStatement_2 : decode cX11_isNoStatement 2 = .ok (.iconst 0, 1) := by decide +kernel
theorem dX11_isNoStatement_3 : decode cX11_isNoStatement 3 = .ok (.aload_n 0, 1) := by decide +kernel
theorem dX11_isNoStatement_4 : decode cX11_isNoStatement 4 = .ok (.getfield 16, 3) := by decide +kernel
theorem dX11_isNoStatement_7 : decode cX11_isNoStatement 7 = .ok (.invokevirtual 34, 3) := by decide +kernel
theorem dX11_isNoStatement_10 : decode cX11_isNoStatement 10 = .ok (.iconst 1, 1) := by decide +kernel
theorem dX11_isNoStatement_11 : decode cX11_isNoStatement 11 = .ok (.isub, 1) := by decide +kernel
theorem dX11_isNoStatement_12 : decode cX11_isNoStatement 12 = .ok (.invokestatic 27, 3) := by decide +kernel
theorem dX11_isNoStatement_15 : decode cX11_isNoStatement 15 = .ok (.ifCond .ne 7, 3) := by decide +kernel
theorem dX11_isNoStatement_18 : decode cX11_isNoStatement 18 = .ok (.iconst 1, 1) := by decide +kernel
theorem dX11_isNoStatement_19 : decode cX11_isNoStatement 19 = .ok (.goto 4, 3) := by decide +kernel
theorem dX11_isNoStatement_23 : decode cX11_isNoStatement 23 = .ok (.iconst 1, 1) := by decide +kernel
theorem dX11_isNoStatement_24 : decode cX11_isNoStatement 24 = .ok (.invokevirtual 31, 3) := by decide +kernel
theorem dX11_isNoStatement_27 : decode cX11_isNoStatement 27 = .ok (.ireturn, 1) := by decide +kernel
set_option maxRecDepth 20000 in
theorem ggX11_setTarget_X11_isNoStatement : GoodIn wsX11_setTarget wsX11_isNoStatement := goodIn_r _ [12, 1, 13, 14, 15, 16, 17, 18, 19, 20, 11, 21, 22, 23, 24, 25, 26, 27, 28, 29, 30, 64, 65, 66, 73, 74, 75] (by decide +kernel) (by decide +kernel)
set_option maxRecDepth 20000 in
theorem gX11_setTarget_X11_isNoStatement : GoodIn wsX11_setTarget (wsV RX11 77 RX11 yX11_isNoStatement wsX11_isNoStatement) := goodIn_app (goodIn_of _ (by decide +kernel)) ggX11_setTarget_X11_isNoStatement
theorem dX11_setTarget_0 : decode cX11_setTarget 0 = .ok (.aload_n 0, 1) := by decide +kernel
theorem dX11_setTarget_1 : decode cX11_setTarget 1 = .ok (.iload_n 1, 1) := by decide +kernel
theorem dX11_setTarget_2 : decode cX11_setTarget 2 = .ok (.invokevirtual 77, 3) := by decide +kernel
theorem dX11_setTarget_5 : decode cX11_setTarget 5 = .ok (.ifCond .eq 5, 3) := by decide +kernel
theorem dX11_setTarget_8 : decode cX11_setTarget 8 = .ok (.iconst 0, 1) := by decide +kernel
theorem dX11_setTarget_9 : decode cX11_setTarget 9 = .ok (.ireturn, 1) := by decide +kernel
set_option maxRecDepth 20000 in
theorem ggX11_undo_Jx4a65c_isEmpty_aae02 : GoodIn wsX11_undo wsJx4a65c_isEmpty_aae02 := goodIn_r _ [6, 7, 48, 49, 50] (by decide +kernel) (by decide +kernel)
set_option maxRecDepth 20000 in
theorem gX11_undo_Jx4a65c_isEmpty_aae02 : GoodIn wsX11_undo (wsV RX11 90 RJx4a65c yJx4a65c_isEmpty_aae02 wsJx4a65c_isEmpty_aae02) := goodIn_app (goodIn_of _ (by decide +kernel)) ggX11_undo_Jx4a65c_isEmpty_aae02
set_option maxRecDepth 20000 in
theorem ggX11_undo_X11_start : GoodIn wsX11_undo wsX11_start := goodIn_r _ [12, 13, 14, 15, 16, 11, 17, 45, 46, 47] (by decide +kernel) (by decide +kernel)
set_option maxRecDepth 20000 in
theorem gX11_undo_X11_start : GoodIn wsX11_undo (wsV RX11 31 RX11 yX11_start wsX11_start) := goodIn_app (goodIn_of _ (by decide +kernel)) ggX11_undo_X11_start
theorem dX11_undo_0 : decode cX11_undo 0 = .ok (.aload_n 0, 1) := by decide +kernel
theorem dX11_undo_1 : decode cX11_undo 1 = .ok (.aload_n 0, 1) := by decide +kernel
theorem dX11_undo_2 : decode cX11_undo 2 = .ok (.getfield 16, 3) := by decide +kernel
theorem dX11_undo_5 : decode cX11_undo 5 = .ok (.invokevirtual 90, 3) := by decide +kernel
theorem dX11_undo_8 : decode cX11_undo 8 = .ok (.iconst 1, 1) := by decide +kernel
theorem dX11_undo_9 : decode cX11_undo 9 = .ok (.invokevirtual 31, 3) := by decide +kernel
theorem dX11_undo_12 : decode cX11_undo 12 = .ok (.ifCond .eq 5, 3) := by decide +kernel
theorem dX11_undo_15 : decode cX11_undo 15 = .ok (.iconst 0, 1) := by decide +kernel
theorem dX11_undo_16 : decode cX11_undo 16 = .ok (.ireturn, 1) := by decide +kernel
set_option maxRecDepth 20000 in
theorem ggX11_variables_Jx4a65c_size_8abf5 : GoodIn wsX11_variables wsJx4a65c_size_8abf5 := goodIn_r _ [6, 7, 17, 18, 19] (by decide +kernel) (by decide +kernel)
set_option maxRecDepth 20000 in
theorem gX11_variables_Jx4a65c_size_8abf5 : GoodIn wsX11_variables (wsV RX11 34 RJx4a65c yJx4a65c_size_8abf5 wsJx4a65c_size_8abf5) := goodIn_app (goodIn_of _ (by decide +kernel)) ggX11_variables_Jx4a65c_size_8abf5
set_option maxRecDepth 20000 in
theorem ggX11_variables_X11_plain : GoodIn wsX11_variables wsX11_plain := goodIn_r _ [12, 13, 14, 15, 16] (by decide +kernel) (by decide +kernel)
set_option maxRecDepth 20000 in
theorem gX11_variables_X11_plain : GoodIn wsX11_variables (wsV RX11 96 RX11 yX11_plain wsX11_plain) := goodIn_app (goodIn_of _ (by decide +kernel)) ggX11_variables_X11_plain
theorem dX11_variables_0 : decode cX11_variables 0 = .ok (.aload_n 0, 1) := by decide +kernel
theorem dX11_variables_1 : decode cX11_variables 1 = .ok (.aload_n 0, 1) := by decide +kernel
theorem dX11_variables_2 : decode cX11_variables 2 = .ok (.getfield 10, 3) := by decide +kernel
theorem dX11_variables_5 : decode cX11_variables 5 = .ok (.invokevirtual 34, 3) := by decide +kernel
theorem dX11_variables_8 : decode cX11_variables 8 = .ok (.invokevirtual 96, 3) := by decide +kernel
theorem dX11_variables_11 : decode cX11_variables 11 = .ok (.ireturn, 1) := by decide +kernel
set_option maxRecDepth 20000 in
theorem ggX11_statements_Jx4a65c_size_8abf5 : GoodIn wsX11_statements wsJx4a65c_size_8abf5 := goodIn_r _ [6, 7, 17, 18, 19] (by decide +kernel) (by decide +kernel)
set_option maxRecDepth 20000 in
theorem gX11_statements_Jx4a65c_size_8abf5 : GoodIn wsX11_statements (wsV RX11 34 RJx4a65c yJx4a65c_size_8abf5 wsJx4a65c_size_8abf5) := goodIn_app (goodIn_of _ (by decide +kernel)) ggX11_statements_Jx4a65c_size_8abf5
set_option maxRecDepth 20000 in
theorem ggX11_statements_X11_plain : GoodIn wsX11_statements wsX11_plain := goodIn_r _ [12, 13, 14, 15, 16] (by decide +kernel) (by decide +kernel)
set_option maxRecDepth 20000 in
theorem gX11_statements_X11_plain : GoodIn wsX11_statements (wsV RX11 96 RX11 yX11_plain wsX11_plain) := goodIn_app (goodIn_of _ (by decide +kernel)) ggX11_statements_X11_plain
theorem dX11_statements_0 : decode cX11_statements 0 = .ok (.aload_n 0, 1) := by decide +kernel
theorem dX11_statements_1 : decode cX11_statements 1 = .ok (.aload_n 0, 1) := by decide +kernel
theorem dX11_statements_2 : decode cX11_statements 2 = .ok (.getfield 16, 3) := by decide +kernel
theorem dX11_statements_5 : decode cX11_statements 5 = .ok (.invokevirtual 34, 3) := by decide +kernel
theorem dX11_statements_8 : decode cX11_statements 8 = .ok (.invokevirtual 96, 3) := by decide +kernel
theorem dX11_statements_11 : decode cX11_statements 11 = .ok (.ireturn, 1) := by decide +kernel
set_option maxRecDepth 20000 in
theorem ggX11_codeOf_X11_isNoStatement : GoodIn wsX11_codeOf wsX11_isNoStatement := goodIn_r _ [8, 1, 9, 10, 11, 12, 13, 14, 15, 16, 7, 17, 18, 19, 20, 21, 22, 23, 24, 25, 26, 44, 45, 46, 53, 54, 55] (by decide +kernel) (by decide +kernel)
set_option maxRecDepth 20000 in
theorem gX11_codeOf_X11_isNoStatement : GoodIn wsX11_codeOf (wsV RX11 77 RX11 yX11_isNoStatement wsX11_isNoStatement) := goodIn_app (goodIn_of _ (by decide +kernel)) ggX11_codeOf_X11_isNoStatement
theorem dX11_codeOf_0 : decode cX11_codeOf 0 = .ok (.aload_n 0, 1) := by decide +kernel
theorem dX11_codeOf_1 : decode cX11_codeOf 1 = .ok (.iload_n 1, 1) := by decide +kernel
theorem dX11_codeOf_2 : decode cX11_codeOf 2 = .ok (.invokevirtual 77, 3) := by decide +kernel
theorem dX11_codeOf_5 : decode cX11_codeOf 5 = .ok (.ifCond .eq 7, 3) := by decide +kernel
theorem dX11_codeOf_8 : decode cX11_codeOf 8 = .ok (.iconst 0, 1) := by decide +kernel
theorem dX11_codeOf_9 : decode cX11_codeOf 9 = .ok (.goto 17, 3) := by decide +kernel
theorem dX11_codeOf_26 : decode cX11_codeOf 26 = .ok (.ireturn, 1) := by decide +kernel
set_option maxRecDepth 20000 in
theorem ggX11_look_X7_init : GoodIn wsX11_look wsX7_init := goodIn_r _ [6, 7, 8, 9, 10, 11, 12, 13, 14, 15, 16, 17, 18, 19, 20, 21, 22, 23, 24, 25, 26, 27, 28, 29, 30, 31, 32, 33, 34, 35, 36, 37, 38, 39, 40, 41, 42, 43, 44, 45, 46, 47, 3, 48, 49, 50, 51, 52, 53, 54, 55, 56, 57, 58, 59, 60, 61, 62, 63, 64, 65, 66, 67, 68, 69, 70, 71, 72, 73, 74, 75, 76, 77, 78, 79, 80, 81, 82, 83, 84, 85, 86, 87, 88, 89, 90, 91, 92, 93, 94, 95, 96, 97, 98, 99, 100, 101, 102, 103, 104, 105, 106, 107, 108, 109, 110, 111, 112, 113, 114, 115, 116, 117, 118, 119, 120, 121, 122, 123, 124, 125, 126, 127, 128, 129, 130, 131, 132, 133, 134, 135, 136, 137, 138, 139, 140, 141, 142, 143, 144, 145, 146, 147, 148, 149, 150, 151, 152, 153, 154, 155, 156, 157, 158, 159, 160, 161, 162, 163, 164, 165, 166, 167, 168, 169, 170, 171, 172, 173, 174, 175, 176, 177, 178, 179, 180, 181, 182, 183, 184, 185, 186, 187, 188, 189, 190, 191, 192, 193, 194, 195, 196, 197, 198, 199, 200, 201, 202, 203, 204, 205, 206, 207, 208, 209, 210, 211, 212, 213, 214, 215, 216, 217, 218, 219, 220, 221, 222, 223, 224, 225, 226, 227, 228, 229, 230, 231, 232, 233, 234, 235, 236, 237, 238, 239, 240, 241, 242, 243, 244, 245, 246, 247, 248, 249, 250, 251, 252, 253, 254, 255, 256, 257, 258, 259, 260, 261, 262, 263, 264, 265, 266, 267, 268, 269, 270, 271, 272, 273, 274, 275, 276, 277, 278, 279, 280, 281, 282, 283, 284, 285, 286, 287, 288, 289, 290, 291, 292, 293, 294, 295, 296, 297, 298, 299, 300, 301, 302, 303, 304, 305, 306, 307, 308, 309, 310, 311, 312, 313, 314, 315, 316, 317, 318, 319, 320, 321, 322, 323, 324, 325, 326, 327, 328, 329, 330, 331, 332, 333] (by decide +kernel) (by decide +kernel)
theorem dX11_look_0 : decode cX11_look 0 = .ok (.new 99, 3) := by decide +kernel
theorem dX11_look_3 : decode cX11_look 3 = .ok (.dup, 1) := by decide +kernel
theorem dX11_look_4 : decode cX11_look 4 = .ok (.aload_n 0, 1) := by decide +kernel
theorem dX11_look_5 : decode cX11_look 5 = .ok (.iconst (-1), 1) := by decide +kernel
theorem dX11_look_6 : decode cX11_look 6 = .ok (.iconst (-1), 1) := by decide +kernel
theorem dX11_look_7 : decode cX11_look 7 = .ok (.invokespecial 101, 3) := by decide +kernel
theorem dX11_look_10 : decode cX11_look 10 = .ok (.areturn, 1) := by decide +kernel
set_option maxRecDepth 20000 in
theorem ggX11_isReached_X11_isNoStatement : GoodIn wsX11_isReached wsX11_isNoStatement := goodIn_r _ [6, 7, 8, 9, 10, 11, 12, 13, 14, 15, 5, 16, 17, 18, 19, 20, 21, 22, 23, 24, 25, 337, 338, 339, 340, 341, 342] (by decide +kernel) (by decide +kernel)
set_option maxRecDepth 20000 in
theorem gX11_isReached_X11_isNoStatement : GoodIn wsX11_isReached (wsV RX11 77 RX11 yX11_isNoStatement wsX11_isNoStatement) := goodIn_app (goodIn_of _ (by decide +kernel)) ggX11_isReached_X11_isNoStatement
theorem dX11_isReached_0 : decode cX11_isReached 0 = .ok (.aload_n 0, 1) := by decide +kernel
theorem dX11_isReached_1 : decode cX11_isReached 1 = .ok (.iload_n 1, 1) := by decide +kernel
theorem dX11_isReached_2 : decode cX11_isReached 2 = .ok (.invokevirtual 77, 3) := by decide +kernel
theorem dX11_isReached_5 : decode cX11_isReached 5 = .ok (.ifCond .ne 19, 3) := by decide +kernel
theorem dX11_isReached_24 : decode cX11_isReached 24 = .ok (.iconst 0, 1) := by decide +kernel
theorem dX11_isReached_25 : decode cX11_isReached 25 = .ok (.ireturn, 1) := by decide +kernel
set_option maxRecDepth 20000 in
theorem ggX11_canBe_X11_isNoStatement : GoodIn wsX11_canBe wsX11_isNoStatement := goodIn_r _ [5, 6, 7, 8, 9, 10, 11, 12, 13, 14, 4, 15, 16, 17, 18, 19, 20, 21, 22, 23, 24, 352, 353, 354, 355, 356, 357] (by decide +kernel) (by decide +kernel)
set_option maxRecDepth 20000 in
theorem gX11_canBe_X11_isNoStatement : GoodIn wsX11_canBe (wsV RX11 77 RX11 yX11_isNoStatement wsX11_isNoStatement) := goodIn_app (goodIn_of _ (by decide +kernel)) ggX11_canBe_X11_isNoStatement
theorem dX11_canBe_0 : decode cX11_canBe 0 = .ok (.aload_n 0, 1) := by decide +kernel
theorem dX11_canBe_1 : decode cX11_canBe 1 = .ok (.iload_n 1, 1) := by decide +kernel
theorem dX11_canBe_2 : decode cX11_canBe 2 = .ok (.invokevirtual 77, 3) := by decide +kernel
theorem dX11_canBe_5 : decode cX11_canBe 5 = .ok (.ifCond .ne 43, 3) := by decide +kernel
theorem dX11_canBe_48 : decode cX11_canBe 48 = .ok (.iconst 0, 1) := by decide +kernel
theorem dX11_canBe_49 : decode cX11_canBe 49 = .ok (.ireturn, 1) := by decide +kernel
set_option maxRecDepth 20000 in
theorem ggX11_holds_X11_isNoStatement : GoodIn wsX11_holds wsX11_isNoStatement := goodIn_r _ [5, 6, 7, 8, 9, 10, 11, 12, 13, 14, 4, 15, 16, 17, 18, 19, 20, 21, 22, 23, 24, 347, 348, 349, 350, 351, 352] (by decide +kernel) (by decide +kernel)
set_option maxRecDepth 20000 in
theorem gX11_holds_X11_isNoStatement : GoodIn wsX11_holds (wsV RX11 77 RX11 yX11_isNoStatement wsX11_isNoStatement) := goodIn_app (goodIn_of _ (by decide +kernel)) ggX11_holds_X11_isNoStatement
theorem dX11_holds_0 : decode cX11_holds 0 = .ok (.aload_n 0, 1) := by decide +kernel
theorem dX11_holds_1 : decode cX11_holds 1 = .ok (.iload_n 1, 1) := by decide +kernel
theorem dX11_holds_2 : decode cX11_holds 2 = .ok (.invokevirtual 77, 3) := by decide +kernel
theorem dX11_holds_5 : decode cX11_holds 5 = .ok (.ifCond .ne 16, 3) := by decide +kernel
theorem dX11_holds_21 : decode cX11_holds 21 = .ok (.iconst 0, 1) := by decide +kernel
theorem dX11_holds_22 : decode cX11_holds 22 = .ok (.goto 13, 3) := by decide +kernel
theorem dX11_holds_35 : decode cX11_holds 35 = .ok (.ireturn, 1) := by decide +kernel
set_option maxRecDepth 20000 in
theorem ggX11_canHold_X11_isNoStatement : GoodIn wsX11_canHold wsX11_isNoStatement := goodIn_r _ [5, 6, 7, 8, 9, 10, 11, 12, 13, 14, 4, 15, 16, 17, 18, 19, 20, 21, 22, 23, 24, 337, 338, 339, 340, 341, 342] (by decide +kernel) (by decide +kernel)
set_option maxRecDepth 20000 in
theorem gX11_canHold_X11_isNoStatement : GoodIn wsX11_canHold (wsV RX11 77 RX11 yX11_isNoStatement wsX11_isNoStatement) := goodIn_app (goodIn_of _ (by decide +kernel)) ggX11_canHold_X11_isNoStatement
theorem dX11_canHold_0 : decode cX11_canHold 0 = .ok (.aload_n 0, 1) := by decide +kernel
theorem dX11_canHold_1 : decode cX11_canHold 1 = .ok (.iload_n 1, 1) := by decide +kernel
theorem dX11_canHold_2 : decode cX11_canHold 2 = .ok (.invokevirtual 77, 3) := by decide +kernel
theorem dX11_canHold_5 : decode cX11_canHold 5 = .ok (.ifCond .ne 16, 3) := by decide +kernel
theorem dX11_canHold_21 : decode cX11_canHold 21 = .ok (.iconst 0, 1) := by decide +kernel
theorem dX11_canHold_22 : decode cX11_canHold 22 = .ok (.ireturn, 1) := by decide +kernel
set_option maxRecDepth 20000 in
theorem ggX11_awaited_X11_isNoStatement : GoodIn wsX11_awaited wsX11_isNoStatement := goodIn_r _ [6, 7, 8, 9, 10, 11, 12, 13, 14, 15, 5, 16, 17, 18, 19, 20, 21, 22, 23, 24, 25, 337, 338, 339, 340, 341, 342] (by decide +kernel) (by decide +kernel)
set_option maxRecDepth 20000 in
theorem gX11_awaited_X11_isNoStatement : GoodIn wsX11_awaited (wsV RX11 77 RX11 yX11_isNoStatement wsX11_isNoStatement) := goodIn_app (goodIn_of _ (by decide +kernel)) ggX11_awaited_X11_isNoStatement
theorem dX11_awaited_0 : decode cX11_awaited 0 = .ok (.aload_n 0, 1) := by decide +kernel
theorem dX11_awaited_1 : decode cX11_awaited 1 = .ok (.iload_n 1, 1) := by decide +kernel
theorem dX11_awaited_2 : decode cX11_awaited 2 = .ok (.invokevirtual 77, 3) := by decide +kernel
theorem dX11_awaited_5 : decode cX11_awaited 5 = .ok (.ifCond .eq 7, 3) := by decide +kernel
theorem dX11_awaited_8 : decode cX11_awaited 8 = .ok (.iconst 0, 1) := by decide +kernel
theorem dX11_awaited_9 : decode cX11_awaited 9 = .ok (.goto 12, 3) := by decide +kernel
theorem dX11_awaited_21 : decode cX11_awaited 21 = .ok (.ireturn, 1) := by decide +kernel
set_option maxRecDepth 20000 in
theorem ggX11_loans_Jx4a65c_size_8abf5 : GoodIn wsX11_loans wsJx4a65c_size_8abf5 := goodIn_r _ [6, 7, 47, 48, 49] (by decide +kernel) (by decide +kernel)
set_option maxRecDepth 20000 in
theorem gX11_loans_Jx4a65c_size_8abf5 : GoodIn wsX11_loans (wsV RX11 34 RJx4a65c yJx4a65c_size_8abf5 wsJx4a65c_size_8abf5) := goodIn_app (goodIn_of _ (by decide +kernel)) ggX11_loans_Jx4a65c_size_8abf5
theorem dX11_loans_0 : decode cX11_loans 0 = .ok (.iconst 0, 1) := by decide +kernel
theorem dX11_loans_1 : decode cX11_loans 1 = .ok (.istore_n 2, 1) := by decide +kernel
theorem dX11_loans_2 : decode cX11_loans 2 = .ok (.iconst 0, 1) := by decide +kernel
theorem dX11_loans_3 : decode cX11_loans 3 = .ok (.istore_n 3, 1) := by decide +kernel
theorem dX11_loans_4 : decode cX11_loans 4 = .ok (.iload_n 3, 1) := by decide +kernel
theorem dX11_loans_5 : decode cX11_loans 5 = .ok (.aload_n 0, 1) := by decide +kernel
theorem dX11_loans_6 : decode cX11_loans 6 = .ok (.getfield 16, 3) := by decide +kernel
theorem dX11_loans_9 : decode cX11_loans 9 = .ok (.invokevirtual 34, 3) := by decide +kernel
theorem dX11_loans_12 : decode cX11_loans 12 = .ok (.if_icmp .ge 25, 3) := by decide +kernel
theorem dX11_loans_37 : decode cX11_loans 37 = .ok (.iload_n 2, 1) := by decide +kernel
theorem dX11_loans_38 : decode cX11_loans 38 = .ok (.ireturn, 1) := by decide +kernel
set_option maxRecDepth 20000 in
theorem ggX11_loans__X11_look : GoodIn wsX11_loans_ wsX11_look := goodIn_r _ [5, 6, 7, 8, 9, 10, 11, 12, 13, 14, 15, 16, 17, 18, 19, 20, 21, 22, 23, 24, 25, 26, 27, 28, 29, 30, 31, 32, 33, 34, 35, 36, 37, 38, 39, 40, 41, 42, 43, 44, 45, 46, 47, 48, 49, 50, 51, 52, 53, 54, 55, 56, 57, 58, 59, 60, 61, 62, 63, 64, 65, 66, 67, 68, 69, 70, 71, 72, 73, 74, 75, 76, 77, 78, 79, 80, 81, 82, 83, 84, 85, 86, 87, 88, 89, 90, 91, 92, 93, 94, 95, 96, 97, 98, 99, 100, 101, 102, 103, 104, 105, 106, 107, 108, 109, 110, 111, 112, 113, 114, 115, 116, 117, 118, 119, 120, 121, 122, 123, 124, 125, 126, 127, 128, 129, 130, 131, 132, 133, 134, 135, 136, 137, 138, 139, 140, 141, 142, 143, 144, 145, 146, 147, 148, 149, 150, 151, 152, 153, 154, 155, 156, 157, 158, 159, 160, 161, 162, 163, 164, 165, 166, 167, 168, 169, 170, 171, 172, 173, 174, 175, 176, 177, 178, 179, 180, 181, 182, 183, 184, 185, 186, 187, 188, 189, 190, 191, 192, 193, 194, 195, 196, 197, 198, 199, 200, 201, 202, 203, 204, 205, 206, 207, 208, 209, 210, 211, 212, 213, 214, 215, 216, 217, 218, 219, 220, 221, 222, 223, 224, 225, 226, 227, 228, 229, 230, 231, 232, 233, 234, 235, 236, 237, 238, 239, 240, 241, 242, 243, 244, 245, 246, 247, 248, 249, 250, 251, 252, 253, 254, 255, 256, 257, 258, 259, 260, 261, 262, 263, 264, 265, 266, 267, 268, 269, 270, 271, 272, 273, 274, 275, 276, 277, 278, 279, 280, 281, 282, 283, 284, 285, 286, 287, 288, 289, 290, 291, 292, 293, 294, 295, 296, 297, 298, 299, 300, 301, 302, 303, 304, 305, 306, 307, 308, 309, 310, 311, 324, 325, 326, 327, 328, 329, 330, 331, 332, 333, 334, 335, 336, 337, 338, 339, 340, 341, 342, 343, 344, 345, 346, 347, 348, 349, 350] (by decide +kernel) (by decide +kernel)
set_option maxRecDepth 20000 in
theorem gX11_loans__X11_look : GoodIn wsX11_loans_ (wsV RX11 104 RX11 yX11_look wsX11_look) := goodIn_app (goodIn_of _ (by decide +kernel)) ggX11_loans__X11_look
set_option maxRecDepth 20000 in
theorem ggX11_loans__X11_loans : GoodIn wsX11_loans_ wsX11_loans := goodIn_r _ [315, 316, 317, 42, 43, 18, 44, 45, 318, 301, 302, 8, 303, 23, 128, 129, 130, 131, 20, 12, 132, 92, 71, 72, 73, 74, 75, 76, 77, 78, 79, 80, 81, 82, 83, 84, 85, 30, 133, 134, 135, 136, 137, 138, 333, 334, 335, 330, 331, 332, 324, 325, 326, 327, 328, 329, 345, 346, 347, 348, 349, 350] (by decide +kernel) (by decide +kernel)
set_option maxRecDepth 20000 in
theorem gX11_loans__X11_loans : GoodIn wsX11_loans_ (wsV RX11 144 RX11 yX11_loans wsX11_loans) := goodIn_app (goodIn_of _ (by decide +kernel)) ggX11_loans__X11_loans
set_option maxRecDepth 20000 in
theorem ggX11_loans__X11_plain : GoodIn wsX11_loans_ wsX11_plain := goodIn_r _ [322, 323, 333, 334, 335] (by decide +kernel) (by decide +kernel)
set_option maxRecDepth 20000 in
theorem gX11_loans__X11_plain : GoodIn wsX11_loans_ (wsV RX11 96 RX11 yX11_plain wsX11_plain) := goodIn_app (goodIn_of _ (by decide +kernel)) ggX11_loans__X11_plain
theorem dX11_loans__0 : decode cX11_loans_ 0 = .ok (.aload_n 0, 1) := by decide +kernel
theorem dX11_loans__1 : decode cX11_loans_ 1 = .ok (.aload_n 0, 1) := by decide +kernel
theorem dX11_loans__2 : decode cX11_loans_ 2 = .ok (.aload_n 0, 1) := by decide +kernel
theorem dX11_loans__3 : decode cX11_loans_ 3 = .ok (.invokevirtual 104, 3) := by decide +kernel
theorem dX11_loans__6 : decode cX11_loans_ 6 = .ok (.invokevirtual 144, 3) := by decide +kernel
theorem dX11_loans__9 : decode cX11_loans_ 9 = .ok (.invokevirtual 96, 3) := by decide +kernel
theorem dX11_loans__12 : decode cX11_loans_ 12 = .ok (.ireturn, 1) := by decide +kernel
set_option maxRecDepth 20000 in
theorem ggX11_isLive_X11_isNoStatement : GoodIn wsX11_isLive wsX11_isNoStatement := goodIn_r _ [5, 6, 7, 8, 9, 10, 11, 12, 13, 14, 4, 15, 16, 17, 18, 19, 20, 21, 22, 23, 24, 331, 332, 333, 334, 335, 336] (by decide +kernel) (by decide +kernel)
set_option maxRecDepth 20000 in
theorem gX11_isLive_X11_isNoStatement : GoodIn wsX11_isLive (wsV RX11 77 RX11 yX11_isNoStatement wsX11_isNoStatement) := goodIn_app (goodIn_of _ (by decide +kernel)) ggX11_isLive_X11_isNoStatement
theorem dX11_isLive_0 : decode cX11_isLive 0 = .ok (.aload_n 0, 1) := by decide +kernel
theorem dX11_isLive_1 : decode cX11_isLive 1 = .ok (.iload_n 2, 1) := by decide +kernel
theorem dX11_isLive_2 : decode cX11_isLive 2 = .ok (.invokevirtual 77, 3) := by decide +kernel
theorem dX11_isLive_5 : decode cX11_isLive 5 = .ok (.ifCond .ne 19, 3) := by decide +kernel
theorem dX11_isLive_24 : decode cX11_isLive 24 = .ok (.iconst 0, 1) := by decide +kernel
theorem dX11_isLive_25 : decode cX11_isLive 25 = .ok (.ireturn, 1) := by decide +kernel
set_option maxRecDepth 20000 in
theorem ggX11_region_X7_isLoan : GoodIn wsX11_region wsX7_isLoan := goodIn_r _ [6, 7, 8, 9, 10, 5, 11, 12, 13, 14, 15, 16, 17, 18, 19, 20, 21, 22, 23, 24, 25, 26, 27, 28, 29, 30, 31, 32, 33, 34, 35, 36, 37, 38, 39, 63, 64, 65, 66, 67, 68, 60, 61, 62, 69, 70, 71, 72, 73, 74, 75, 76, 77] (by decide +kernel) (by decide +kernel)
set_option maxRecDepth 20000 in
theorem gX11_region_X7_isLoan : GoodIn wsX11_region (wsV RX11 135 RX7 yX7_isLoan wsX7_isLoan) := goodIn_app (goodIn_of _ (by decide +kernel)) ggX11_region_X7_isLoan
theorem dX11_region_0 : decode cX11_region 0 = .ok (.aload_n 1, 1) := by decide +kernel
theorem dX11_region_1 : decode cX11_region 1 = .ok (.iload_n 2, 1) := by decide +kernel
theorem dX11_region_2 : decode cX11_region 2 = .ok (.invokevirtual 135, 3) := by decide +kernel
theorem dX11_region_5 : decode cX11_region 5 = .ok (.ifCond .ne 5, 3) := by decide +kernel
theorem dX11_region_8 : decode cX11_region 8 = .ok (.iconst (-1), 1) := by decide +kernel
theorem dX11_region_9 : decode cX11_region 9 = .ok (.ireturn, 1) := by decide +kernel
set_option maxRecDepth 20000 in
theorem ggX11_region__X11_look : GoodIn wsX11_region_ wsX11_look := goodIn_r _ [5, 6, 7, 8, 9, 10, 11, 12, 13, 14, 15, 16, 17, 18, 19, 20, 21, 22, 23, 24, 25, 26, 27, 28, 29, 30, 31, 32, 33, 34, 35, 36, 37, 38, 39, 40, 41, 42, 43, 44, 45, 46, 47, 48, 49, 50, 51, 52, 53, 54, 55, 56, 57, 58, 59, 60, 61, 62, 63, 64, 65, 66, 67, 68, 69, 70, 71, 72, 73, 74, 75, 76, 77, 78, 79, 80, 81, 82, 83, 84, 85, 86, 87, 88, 89, 90, 91, 92, 93, 94, 95, 96, 97, 98, 99, 100, 101, 102, 103, 104, 105, 106, 107, 108, 109, 110, 111, 112, 113, 114, 115, 116, 117, 118, 119, 120, 121, 122, 123, 124, 125, 126, 127, 128, 129, 130, 131, 132, 133, 134, 135, 136, 137, 138, 139, 140, 141, 142, 143, 144, 145, 146, 147, 148, 149, 150, 151, 152, 153, 154, 155, 156, 157, 158, 159, 160, 161, 162, 163, 164, 165, 166, 167, 168, 169, 170, 171, 172, 173, 174, 175, 176, 177, 178, 179, 180, 181, 182, 183, 184, 185, 186, 187, 188, 189, 190, 191, 192, 193, 194, 195, 196, 197, 198, 199, 200, 201, 202, 203, 204, 205, 206, 207, 208, 209, 210, 211, 212, 213, 214, 215, 216, 217, 218, 219, 220, 221, 222, 223, 224, 225, 226, 227, 228, 229, 230, 231, 232, 233, 234, 235, 236, 237, 238, 239, 240, 241, 242, 243, 244, 245, 246, 247, 248, 249, 250, 251, 252, 253, 254, 255, 256, 257, 258, 259, 260, 261, 262, 263, 264, 265, 266, 267, 268, 269, 270, 271, 272, 273, 274, 275, 276, 277, 278, 279, 280, 281, 282, 283, 284, 285, 286, 287, 288, 289, 290, 291, 292, 293, 294, 295, 296, 297, 298, 299, 300, 301, 302, 303, 304, 305, 306, 307, 308, 309, 310, 311, 325, 326, 327, 328, 329, 330, 331, 332, 333, 334, 335, 336, 337, 338, 339, 340, 341, 342, 343, 344, 345, 346, 347, 348, 349, 350, 351] (by decide +kernel) (by decide +kernel)
set_option maxRecDepth 20000 in
theorem gX11_region__X11_look : GoodIn wsX11_region_ (wsV RX11 104 RX11 yX11_look wsX11_look) := goodIn_app (goodIn_of _ (by decide +kernel)) ggX11_region__X11_look
set_option maxRecDepth 20000 in
theorem ggX11_region__X11_region : GoodIn wsX11_region_ wsX11_region := goodIn_r _ [315, 316, 317, 301, 302, 8, 303, 23, 128, 129, 130, 131, 20, 12, 132, 92, 71, 72, 18, 73, 45, 74, 75, 76, 77, 78, 79, 80, 81, 82, 83, 84, 85, 30, 133, 134, 135, 136, 137, 138, 318, 42, 43, 44, 319, 297, 298, 299, 300, 265, 266, 267, 268, 25, 41, 269, 270, 271, 272, 111, 334, 335, 336, 325, 326, 327, 328, 329, 330, 331, 332, 333, 346, 347, 348, 349, 350, 351, 337, 338, 339] (by decide +kernel) (by decide +kernel)
set_option maxRecDepth 20000 in
theorem gX11_region__X11_region : GoodIn wsX11_region_ (wsV RX11 151 RX11 yX11_region wsX11_region) := goodIn_app (goodIn_of _ (by decide +kernel)) ggX11_region__X11_region
set_option maxRecDepth 20000 in
theorem ggX11_region__X11_plain : GoodIn wsX11_region_ wsX11_plain := goodIn_r _ [323, 324, 334, 335, 336] (by decide +kernel) (by decide +kernel)
set_option maxRecDepth 20000 in
theorem gX11_region__X11_plain : GoodIn wsX11_region_ (wsV RX11 96 RX11 yX11_plain wsX11_plain) := goodIn_app (goodIn_of _ (by decide +kernel)) ggX11_region__X11_plain
theorem dX11_region__0 : decode cX11_region_ 0 = .ok (.aload_n 0, 1) := by decide +kernel
theorem dX11_region__1 : decode cX11_region_ 1 = .ok (.aload_n 0, 1) := by decide +kernel
theorem dX11_region__2 : decode cX11_region_ 2 = .ok (.aload_n 0, 1) := by decide +kernel
theorem dX11_region__3 : decode cX11_region_ 3 = .ok (.invokevirtual 104, 3) := by decide +kernel
theorem dX11_region__6 : decode cX11_region_ 6 = .ok (.iload_n 1, 1) := by decide +kernel
theorem dX11_region__7 : decode cX11_region_ 7 = .ok (.invokevirtual 151, 3) := by decide +kernel
theorem dX11_region__10 : decode cX11_region_ 10 = .ok (.invokevirtual 96, 3) := by decide +kernel
theorem dX11_region__13 : decode cX11_region_ 13 = .ok (.ireturn, 1) := by decide +kernel
set_option maxRecDepth 20000 in
theorem ggX11_faults_X11_look : GoodIn wsX11_faults wsX11_look := goodIn_r _ [6, 7, 8, 9, 10, 11, 12, 13, 14, 15, 16, 17, 18, 19, 20, 21, 22, 23, 24, 25, 26, 27, 28, 29, 30, 31, 32, 33, 34, 35, 36, 37, 38, 39, 40, 41, 42, 43, 44, 45, 46, 47, 48, 49, 50, 51, 52, 53, 54, 55, 56, 57, 58, 59, 60, 61, 62, 63, 64, 65, 66, 67, 68, 69, 70, 71, 72, 73, 74, 75, 76, 77, 78, 79, 80, 81, 82, 83, 84, 85, 86, 87, 88, 89, 90, 91, 92, 93, 94, 95, 96, 97, 98, 99, 100, 101, 102, 103, 104, 105, 106, 107, 108, 109, 110, 111, 112, 113, 114, 115, 116, 117, 118, 119, 120, 121, 122, 123, 124, 125, 126, 127, 128, 129, 130, 131, 132, 133, 134, 135, 136, 137, 138, 139, 140, 141, 142, 143, 144, 145, 146, 147, 148, 149, 150, 151, 152, 153, 154, 155, 156, 157, 158, 159, 160, 161, 162, 163, 164, 165, 166, 167, 168, 169, 170, 171, 172, 173, 174, 175, 176, 177, 178, 179, 180, 181, 182, 183, 184, 185, 186, 187, 188, 189, 190, 191, 192, 193, 194, 195, 196, 197, 198, 199, 200, 201, 202, 203, 204, 205, 206, 207, 208, 209, 210, 211, 212, 213, 214, 215, 216, 217, 218, 219, 220, 221, 222, 223, 224, 225, 226, 227, 228, 229, 230, 231, 232, 233, 234, 235, 236, 237, 238, 239, 240, 241, 242, 243, 244, 245, 246, 247, 248, 249, 250, 251, 252, 253, 254, 255, 256, 257, 258, 259, 260, 261, 262, 263, 264, 265, 266, 267, 268, 269, 270, 271, 272, 273, 274, 275, 276, 277, 278, 279, 280, 281, 282, 283, 284, 285, 286, 287, 288, 289, 290, 291, 292, 293, 294, 295, 296, 297, 298, 299, 300, 301, 302, 303, 304, 305, 306, 307, 308, 309, 310, 311, 312, 319, 320, 321, 322, 323, 324, 325, 326, 327, 328, 329, 330, 331, 332, 333, 334, 335, 336, 337, 338, 339, 340, 341, 342, 343, 344, 345] (by decide +kernel) (by decide +kernel)
set_option maxRecDepth 20000 in
theorem gX11_faults_X11_look : GoodIn wsX11_faults (wsV RX11 104 RX11 yX11_look wsX11_look) := goodIn_app (goodIn_of _ (by decide +kernel)) ggX11_faults_X11_look
set_option maxRecDepth 20000 in
theorem ggX11_faults_Jx4a65c_size_8abf5 : GoodIn wsX11_faults wsJx4a65c_size_8abf5 := goodIn_r _ [45, 46, 325, 326, 327] (by decide +kernel) (by decide +kernel)
set_option maxRecDepth 20000 in
theorem gX11_faults_Jx4a65c_size_8abf5 : GoodIn wsX11_faults (wsV RX11 34 RJx4a65c yJx4a65c_size_8abf5 wsJx4a65c_size_8abf5) := goodIn_app (goodIn_of _ (by decide +kernel)) ggX11_faults_Jx4a65c_size_8abf5
set_option maxRecDepth 20000 in
theorem ggX11_faults_X11_plain : GoodIn wsX11_faults wsX11_plain := goodIn_r _ [317, 318, 328, 329, 330] (by decide +kernel) (by decide +kernel)
set_option maxRecDepth 20000 in
theorem gX11_faults_X11_plain : GoodIn wsX11_faults (wsV RX11 96 RX11 yX11_plain wsX11_plain) := goodIn_app (goodIn_of _ (by decide +kernel)) ggX11_faults_X11_plain
theorem dX11_faults_0 : decode cX11_faults 0 = .ok (.aload_n 0, 1) := by decide +kernel
theorem dX11_faults_1 : decode cX11_faults 1 = .ok (.aload_n 0, 1) := by decide +kernel
theorem dX11_faults_2 : decode cX11_faults 2 = .ok (.invokevirtual 104, 3) := by decide +kernel
theorem dX11_faults_5 : decode cX11_faults 5 = .ok (.getfield 155, 3) := by decide +kernel
theorem dX11_faults_8 : decode cX11_faults 8 = .ok (.invokevirtual 34, 3) := by decide +kernel
theorem dX11_faults_11 : decode cX11_faults 11 = .ok (.invokevirtual 96, 3) := by decide +kernel
theorem dX11_faults_14 : decode cX11_faults 14 = .ok (.ireturn, 1) := by decide +kernel
set_option maxRecDepth 20000 in
theorem ggX11_ofFault_X11_look : GoodIn wsX11_ofFault wsX11_look := goodIn_r _ [8, 9, 10, 11, 12, 13, 14, 15, 16, 17, 18, 19, 20, 21, 22, 23, 24, 25, 26, 27, 28, 29, 30, 31, 32, 33, 34, 35, 36, 37, 38, 39, 40, 41, 42, 43, 44, 45, 46, 47, 48, 49, 50, 51, 52, 53, 54, 55, 56, 57, 58, 59, 60, 61, 62, 63, 64, 65, 66, 67, 68, 69, 70, 71, 72, 73, 74, 75, 76, 77, 78, 79, 80, 81, 82, 83, 84, 85, 86, 87, 88, 89, 90, 91, 92, 93, 94, 95, 96, 97, 98, 99, 100, 101, 102, 103, 104, 105, 106, 107, 108, 109, 110, 111, 112, 113, 114, 115, 116, 117, 118, 119, 120, 121, 122, 123, 124, 125, 126, 127, 128, 129, 130, 131, 132, 133, 134, 135, 136, 137, 138, 139, 140, 141, 142, 143, 144, 145, 146, 147, 148, 149, 150, 151, 152, 153, 154, 155, 156, 157, 158, 159, 160, 161, 162, 163, 164, 165, 166, 167, 168, 169, 170, 171, 172, 173, 174, 175, 176, 177, 178, 179, 180, 181, 182, 183, 184, 185, 186, 187, 188, 189, 190, 191, 192, 193, 194, 195, 196, 197, 198, 199, 200, 201, 202, 203, 204, 205, 206, 207, 208, 209, 210, 211, 212, 213, 214, 215, 216, 217, 218, 219, 220, 221, 222, 223, 224, 225, 226, 227, 228, 229, 230, 231, 232, 233, 234, 235, 236, 237, 238, 239, 240, 241, 242, 243, 244, 245, 246, 247, 248, 249, 250, 251, 252, 253, 254, 255, 256, 257, 258, 259, 260, 261, 262, 263, 264, 265, 266, 267, 268, 269, 270, 271, 272, 273, 274, 275, 276, 277, 278, 279, 280, 281, 282, 283, 284, 285, 286, 287, 288, 289, 290, 291, 292, 293, 294, 295, 296, 297, 298, 299, 300, 301, 302, 303, 304, 305, 306, 307, 308, 309, 310, 311, 312, 313, 314, 327, 328, 329, 330, 331, 332, 333, 334, 335, 324, 325, 326, 336, 337, 338, 339, 340, 341, 342, 343, 344, 345, 346, 347, 348, 349, 350] (by decide +kernel) (by decide +kernel)
set_option maxRecDepth 20000 in
theorem gX11_ofFault_X11_look : GoodIn wsX11_ofFault (wsV RX11 104 RX11 yX11_look wsX11_look) := goodIn_app (goodIn_of _ (by decide +kernel)) ggX11_ofFault_X11_look
set_option maxRecDepth 20000 in
theorem ggX11_ofFault_Jx4a65c_size_8abf5 : GoodIn wsX11_ofFault wsJx4a65c_size_8abf5 := goodIn_r _ [47, 48, 333, 334, 335] (by decide +kernel) (by decide +kernel)
set_option maxRecDepth 20000 in
theorem gX11_ofFault_Jx4a65c_size_8abf5 : GoodIn wsX11_ofFault (wsV RX11 34 RJx4a65c yJx4a65c_size_8abf5 wsJx4a65c_size_8abf5) := goodIn_app (goodIn_of _ (by decide +kernel)) ggX11_ofFault_Jx4a65c_size_8abf5
set_option maxRecDepth 20000 in
theorem ggX11_ofFault_X11_isIn : GoodIn wsX11_ofFault wsX11_isIn := goodIn_r _ [318] (by decide +kernel) (by decide +kernel)
set_option maxRecDepth 20000 in
theorem gX11_ofFault_X11_isIn : GoodIn wsX11_ofFault (va_wsS RX11 27 yX11_isIn wsX11_isIn) := goodIn_app (goodIn_of _ (by decide +kernel)) ggX11_ofFault_X11_isIn
set_option maxRecDepth 20000 in
theorem ggX11_ofFault_X11_refuse : GoodIn wsX11_ofFault wsX11_refuse := goodIn_r _ [322, 1, 324, 325, 326] (by decide +kernel) (by decide +kernel)
set_option maxRecDepth 20000 in
theorem gX11_ofFault_X11_refuse : GoodIn wsX11_ofFault (wsV RX11 23 RX11 yX11_refuse wsX11_refuse) := goodIn_app (goodIn_of _ (by decide +kernel)) ggX11_ofFault_X11_refuse
theorem dX11_ofFault_0 : decode cX11_ofFault 0 = .ok (.aload_n 0, 1) := by decide +kernel
theorem dX11_ofFault_1 : decode cX11_ofFault 1 = .ok (.iconst 0, 1) := by decide +kernel
theorem dX11_ofFault_2 : decode cX11_ofFault 2 = .ok (.putfield 19, 3) := by decide +kernel
theorem dX11_ofFault_5 : decode cX11_ofFault 5 = .ok (.aload_n 0, 1) := by decide +kernel
theorem dX11_ofFault_6 : decode cX11_ofFault 6 = .ok (.invokevirtual 104, 3) := by decide +kernel
theorem dX11_ofFault_9 : decode cX11_ofFault 9 = .ok (.getfield 155, 3) := by decide +kernel
theorem dX11_ofFault_12 : decode cX11_ofFault 12 = .ok (.astore_n 3, 1) := by decide +kernel
theorem dX11_ofFault_13 : decode cX11_ofFault 13 = .ok (.aload_n 0, 1) := by decide +kernel
theorem dX11_ofFault_14 : decode cX11_ofFault 14 = .ok (.iload_n 1, 1) := by decide +kernel
theorem dX11_ofFault_15 : decode cX11_ofFault 15 = .ok (.iconst 0, 1) := by decide +kernel
theorem dX11_ofFault_16 : decode cX11_ofFault 16 = .ok (.aload_n 3, 1) := by decide +kernel
theorem dX11_ofFault_17 : decode cX11_ofFault 17 = .ok (.invokevirtual 34, 3) := by decide +kernel
theorem dX11_ofFault_20 : decode cX11_ofFault 20 = .ok (.iconst 1, 1) := by decide +kernel
theorem dX11_ofFault_21 : decode cX11_ofFault 21 = .ok (.isub, 1) := by decide +kernel
theorem dX11_ofFault_22 : decode cX11_ofFault 22 = .ok (.invokestatic 27, 3) := by decide +kernel
theorem dX11_ofFault_25 : decode cX11_ofFault 25 = .ok (.ifCond .ne 7, 3) := by decide +kernel
theorem dX11_ofFault_28 : decode cX11_ofFault 28 = .ok (.iconst 1, 1) := by decide +kernel
theorem dX11_ofFault_29 : decode cX11_ofFault 29 = .ok (.goto 4, 3) := by decide +kernel
theorem dX11_ofFault_33 : decode cX11_ofFault 33 = .ok (.iconst 1, 1) := by decide +kernel
theorem dX11_ofFault_34 : decode cX11_ofFault 34 = .ok (.invokevirtual 23, 3) := by decide +kernel
theorem dX11_ofFault_37 : decode cX11_ofFault 37 = .ok (.ifCond .ne 26, 3) := by decide +kernel
theorem dX11_ofFault_63 : decode cX11_ofFault 63 = .ok (.iconst 0, 1) := by decide +kernel
theorem dX11_ofFault_64 : decode cX11_ofFault 64 = .ok (.goto 13, 3) := by decide +kernel
theorem dX11_ofFault_77 : decode cX11_ofFault 77 = .ok (.ireturn, 1) := by decide +kernel
set_option maxRecDepth 20000 in
theorem ggX11_many__Jx4a65c_size_8abf5 : GoodIn wsX11_many_ wsJx4a65c_size_8abf5 := goodIn_r _ [6, 7, 25, 26, 27] (by decide +kernel) (by decide +kernel)
set_option maxRecDepth 20000 in
theorem gX11_many__Jx4a65c_size_8abf5 : GoodIn wsX11_many_ (wsV RX11 34 RJx4a65c yJx4a65c_size_8abf5 wsJx4a65c_size_8abf5) := goodIn_app (goodIn_of _ (by decide +kernel)) ggX11_many__Jx4a65c_size_8abf5
theorem dX11_many__0 : decode cX11_many_ 0 = .ok (.iconst 0, 1) := by decide +kernel
theorem dX11_many__1 : decode cX11_many_ 1 = .ok (.istore_n 3, 1) := by decide +kernel
theorem dX11_many__2 : decode cX11_many_ 2 = .ok (.iconst 0, 1) := by decide +kernel
theorem dX11_many__3 : decode cX11_many_ 3 = .ok (.istore 4, 2) := by decide +kernel
theorem dX11_many__5 : decode cX11_many_ 5 = .ok (.iload 4, 2) := by decide +kernel
theorem dX11_many__7 : decode cX11_many_ 7 = .ok (.aload_n 0, 1) := by decide +kernel
theorem dX11_many__8 : decode cX11_many_ 8 = .ok (.invokevirtual 34, 3) := by decide +kernel
theorem dX11_many__11 : decode cX11_many_ 11 = .ok (.if_icmp .ge 32, 3) := by decide +kernel
theorem dX11_many__43 : decode cX11_many_ 43 = .ok (.iload_n 3, 1) := by decide +kernel
theorem dX11_many__44 : decode cX11_many_ 44 = .ok (.ireturn, 1) := by decide +kernel
set_option maxRecDepth 20000 in
theorem ggX11_faultsAt_X11_isNoStatement : GoodIn wsX11_faultsAt wsX11_isNoStatement := goodIn_r _ [6, 7, 8, 9, 10, 11, 12, 13, 14, 15, 5, 16, 17, 18, 19, 20, 21, 22, 23, 24, 25, 342, 343, 344, 345, 346, 347] (by decide +kernel) (by decide +kernel)
set_option maxRecDepth 20000 in
theorem gX11_faultsAt_X11_isNoStatement : GoodIn wsX11_faultsAt (wsV RX11 77 RX11 yX11_isNoStatement wsX11_isNoStatement) := goodIn_app (goodIn_of _ (by decide +kernel)) ggX11_faultsAt_X11_isNoStatement
theorem dX11_faultsAt_0 : decode cX11_faultsAt 0 = .ok (.aload_n 0, 1) := by decide +kernel
theorem dX11_faultsAt_1 : decode cX11_faultsAt 1 = .ok (.iload_n 1, 1) := by decide +kernel
theorem dX11_faultsAt_2 : decode cX11_faultsAt 2 = .ok (.invokevirtual 77, 3) := by decide +kernel
theorem dX11_faultsAt_5 : decode cX11_faultsAt 5 = .ok (.ifCond .eq 7, 3) := by decide +kernel
theorem dX11_faultsAt_8 : decode cX11_faultsAt 8 = .ok (.iconst 0, 1) := by decide +kernel
theorem dX11_faultsAt_9 : decode cX11_faultsAt 9 = .ok (.goto 15, 3) := by decide +kernel
theorem dX11_faultsAt_24 : decode cX11_faultsAt 24 = .ok (.ireturn, 1) := by decide +kernel
set_option maxRecDepth 20000 in
theorem ggX11_faultsOf_X11_isIn : GoodIn wsX11_faultsOf wsX11_isIn := goodIn_r _ [5] (by decide +kernel) (by decide +kernel)
set_option maxRecDepth 20000 in
theorem gX11_faultsOf_X11_isIn : GoodIn wsX11_faultsOf (va_wsS RX11 27 yX11_isIn wsX11_isIn) := goodIn_app (goodIn_of _ (by decide +kernel)) ggX11_faultsOf_X11_isIn
set_option maxRecDepth 20000 in
theorem ggX11_faultsOf_X11_start : GoodIn wsX11_faultsOf wsX11_start := goodIn_r _ [9, 10, 11, 12, 13, 4, 14, 337, 338, 339] (by decide +kernel) (by decide +kernel)
set_option maxRecDepth 20000 in
theorem gX11_faultsOf_X11_start : GoodIn wsX11_faultsOf (wsV RX11 31 RX11 yX11_start wsX11_start) := goodIn_app (goodIn_of _ (by decide +kernel)) ggX11_faultsOf_X11_start
set_option maxRecDepth 20000 in
theorem ggX11_faultsOf_X11_look : GoodIn wsX11_faultsOf wsX11_look := goodIn_r _ [18, 19, 20, 21, 22, 23, 24, 25, 26, 27, 28, 29, 30, 31, 32, 33, 34, 35, 36, 37, 38, 39, 40, 41, 42, 43, 44, 45, 46, 47, 48, 49, 50, 51, 52, 53, 54, 55, 56, 57, 58, 59, 60, 61, 62, 63, 64, 65, 66, 67, 68, 69, 70, 71, 72, 73, 74, 75, 76, 77, 78, 79, 80, 81, 82, 83, 84, 85, 86, 87, 88, 89, 90, 91, 92, 93, 94, 95, 96, 97, 98, 99, 100, 101, 102, 103, 104, 105, 106, 107, 108, 109, 110, 111, 112, 113, 114, 115, 116, 117, 118, 119, 120, 121, 122, 123, 124, 125, 126, 127, 128, 129, 130, 131, 132, 133, 134, 135, 136, 137, 138, 139, 140, 141, 142, 143, 144, 145, 146, 147, 148, 149, 150, 151, 152, 153, 154, 155, 156, 157, 158, 159, 160, 161, 162, 163, 164, 165, 166, 167, 168, 169, 170, 171, 172, 173, 174, 175, 176, 177, 178, 179, 180, 181, 182, 183, 184, 185, 186, 187, 188, 189, 190, 191, 192, 193, 194, 195, 196, 197, 198, 199, 200, 201, 202, 203, 204, 205, 206, 207, 208, 209, 210, 211, 212, 213, 214, 215, 216, 217, 218, 219, 220, 221, 222, 223, 224, 225, 226, 227, 228, 229, 230, 231, 232, 233, 234, 235, 236, 237, 238, 239, 240, 241, 242, 243, 244, 245, 246, 247, 248, 249, 250, 251, 252, 253, 254, 255, 256, 257, 258, 259, 260, 261, 262, 263, 264, 265, 266, 267, 268, 269, 270, 271, 272, 273, 274, 275, 276, 277, 278, 279, 280, 281, 282, 283, 284, 285, 286, 287, 288, 289, 290, 291, 292, 293, 294, 295, 296, 297, 298, 299, 300, 301, 302, 303, 304, 305, 306, 307, 308, 309, 310, 311, 312, 313, 314, 315, 316, 317, 318, 319, 320, 321, 322, 323, 324, 331, 332, 333, 334, 335, 336, 340, 341, 342, 337, 338, 339, 343, 344, 345, 346, 347, 348, 349, 350, 351, 352, 353, 354, 355, 356, 357] (by decide +kernel) (by decide +kernel)
set_option maxRecDepth 20000 in
theorem gX11_faultsOf_X11_look : GoodIn wsX11_faultsOf (wsV RX11 104 RX11 yX11_look wsX11_look) := goodIn_app (goodIn_of _ (by decide +kernel)) ggX11_faultsOf_X11_look
set_option maxRecDepth 20000 in
theorem ggX11_faultsOf_X11_many_ : GoodIn wsX11_faultsOf wsX11_many_ := goodIn_r _ [327, 328, 329, 55, 56, 31, 57, 58, 330, 84, 85, 86, 87, 88, 89, 90, 91, 92, 93, 94, 95, 96, 97, 98, 43, 340, 341, 342] (by decide +kernel) (by decide +kernel)
set_option maxRecDepth 20000 in
theorem gX11_faultsOf_X11_many_ : GoodIn wsX11_faultsOf (va_wsS RX11 159 yX11_many_ wsX11_many_) := goodIn_app (goodIn_of _ (by decide +kernel)) ggX11_faultsOf_X11_many_
theorem dX11_faultsOf_0 : decode cX11_faultsOf 0 = .ok (.aload_n 0, 1) := by decide +kernel
theorem dX11_faultsOf_1 : decode cX11_faultsOf 1 = .ok (.iload_n 1, 1) := by decide +kernel
theorem dX11_faultsOf_2 : decode cX11_faultsOf 2 = .ok (.iconst 1, 1) := by decide +kernel
theorem dX11_faultsOf_3 : decode cX11_faultsOf 3 = .ok (.bipush 6, 2) := by decide +kernel
theorem dX11_faultsOf_5 : decode cX11_faultsOf 5 = .ok (.invokestatic 27, 3) := by decide +kernel
theorem dX11_faultsOf_8 : decode cX11_faultsOf 8 = .ok (.ifCond .ne 7, 3) := by decide +kernel
theorem dX11_faultsOf_11 : decode cX11_faultsOf 11 = .ok (.iconst 1, 1) := by decide +kernel
theorem dX11_faultsOf_12 : decode cX11_faultsOf 12 = .ok (.goto 4, 3) := by decide +kernel
theorem dX11_faultsOf_15 : decode cX11_faultsOf 15 = .ok (.iconst 0, 1) := by decide +kernel
theorem dX11_faultsOf_16 : decode cX11_faultsOf 16 = .ok (.iconst 1, 1) := by decide +kernel
theorem dX11_faultsOf_17 : decode cX11_faultsOf 17 = .ok (.invokevirtual 31, 3) := by decide +kernel
theorem dX11_faultsOf_20 : decode cX11_faultsOf 20 = .ok (.ifCond .eq 7, 3) := by decide +kernel
theorem dX11_faultsOf_23 : decode cX11_faultsOf 23 = .ok (.iconst 0, 1) := by decide +kernel
theorem dX11_faultsOf_24 : decode cX11_faultsOf 24 = .ok (.goto 15, 3) := by decide +kernel
theorem dX11_faultsOf_27 : decode cX11_faultsOf 27 = .ok (.aload_n 0, 1) := by decide +kernel
theorem dX11_faultsOf_28 : decode cX11_faultsOf 28 = .ok (.invokevirtual 104, 3) := by decide +kernel
theorem dX11_faultsOf_31 : decode cX11_faultsOf 31 = .ok (.getfield 155, 3) := by decide +kernel
theorem dX11_faultsOf_34 : decode cX11_faultsOf 34 = .ok (.iconst 1, 1) := by decide +kernel
theorem dX11_faultsOf_35 : decode cX11_faultsOf 35 = .ok (.iload_n 1, 1) := by decide +kernel
theorem dX11_faultsOf_36 : decode cX11_faultsOf 36 = .ok (.invokestatic 159, 3) := by decide +kernel
theorem dX11_faultsOf_39 : decode cX11_faultsOf 39 = .ok (.ireturn, 1) := by decide +kernel
set_option maxRecDepth 20000 in
theorem ggX11_without_X11_isNoStatement : GoodIn wsX11_without wsX11_isNoStatement := goodIn_r _ [5, 6, 7, 8, 9, 10, 11, 12, 13, 14, 4, 15, 16, 17, 18, 19, 20, 21, 22, 23, 24, 331, 332, 333, 334, 335, 336] (by decide +kernel) (by decide +kernel)
set_option maxRecDepth 20000 in
theorem gX11_without_X11_isNoStatement : GoodIn wsX11_without (wsV RX11 77 RX11 yX11_isNoStatement wsX11_isNoStatement) := goodIn_app (goodIn_of _ (by decide +kernel)) ggX11_without_X11_isNoStatement
theorem dX11_without_0 : decode cX11_without 0 = .ok (.aload_n 0, 1) := by decide +kernel
theorem dX11_without_1 : decode cX11_without 1 = .ok (.iload_n 1, 1) := by decide +kernel
theorem dX11_without_2 : decode cX11_without 2 = .ok (.invokevirtual 77, 3) := by decide +kernel
theorem dX11_without_5 : decode cX11_without 5 = .ok (.ifCond .eq 7, 3) := by decide +kernel
theorem dX11_without_8 : decode cX11_without 8 = .ok (.iconst 0, 1) := by decide +kernel
theorem dX11_without_9 : decode cX11_without 9 = .ok (.goto 8, 3) := by decide +kernel
theorem dX11_without_17 : decode cX11_without 17 = .ok (.ireturn, 1) := by decide +kernel
set_option maxRecDepth 20000 in
theorem ggX11_copied_X11_isNoStatement : GoodIn wsX11_copied wsX11_isNoStatement := goodIn_r _ [9, 10, 11, 12, 13, 14, 15, 16, 17, 18, 8, 19, 20, 21, 22, 23, 24, 25, 26, 27, 28, 333, 334, 335, 336, 337, 338] (by decide +kernel) (by decide +kernel)
set_option maxRecDepth 20000 in
theorem gX11_copied_X11_isNoStatement : GoodIn wsX11_copied (wsV RX11 77 RX11 yX11_isNoStatement wsX11_isNoStatement) := goodIn_app (goodIn_of _ (by decide +kernel)) ggX11_copied_X11_isNoStatement
theorem dX11_copied_0 : decode cX11_copied 0 = .ok (.aload_n 0, 1) := by decide +kernel
theorem dX11_copied_1 : decode cX11_copied 1 = .ok (.iload_n 1, 1) := by decide +kernel
theorem dX11_copied_2 : decode cX11_copied 2 = .ok (.invokevirtual 77, 3) := by decide +kernel
theorem dX11_copied_5 : decode cX11_copied 5 = .ok (.ifCond .eq 7, 3) := by decide +kernel
theorem dX11_copied_8 : decode cX11_copied 8 = .ok (.iconst 0, 1) := by decide +kernel
theorem dX11_copied_9 : decode cX11_copied 9 = .ok (.goto 19, 3) := by decide +kernel
theorem dX11_copied_28 : decode cX11_copied 28 = .ok (.ireturn, 1) := by decide +kernel
set_option maxRecDepth 20000 in
theorem ggX11_culprit_X11_look : GoodIn wsX11_culprit wsX11_look := goodIn_r _ [8, 9, 10, 11, 12, 13, 14, 15, 16, 17, 18, 19, 20, 21, 22, 23, 24, 25, 26, 27, 28, 29, 30, 31, 32, 33, 34, 35, 36, 37, 38, 39, 40, 41, 42, 43, 44, 45, 46, 47, 48, 49, 50, 51, 52, 53, 54, 55, 56, 57, 58, 59, 60, 61, 62, 63, 64, 65, 66, 67, 68, 69, 70, 71, 72, 73, 74, 75, 76, 77, 78, 79, 80, 81, 82, 83, 84, 85, 86, 87, 88, 89, 90, 91, 92, 93, 94, 95, 96, 97, 98, 99, 100, 101, 102, 103, 104, 105, 106, 107, 108, 109, 110, 111, 112, 113, 114, 115, 116, 117, 118, 119, 120, 121, 122, 123, 124, 125, 126, 127, 128, 129, 130, 131, 132, 133, 134, 135, 136, 137, 138, 139, 140, 141, 142, 143, 144, 145, 146, 147, 148, 149, 150, 151, 152, 153, 154, 155, 156, 157, 158, 159, 160, 161, 162, 163, 164, 165, 166, 167, 168, 169, 170, 171, 172, 173, 174, 175, 176, 177, 178, 179, 180, 181, 182, 183, 184, 185, 186, 187, 188, 189, 190, 191, 192, 193, 194, 195, 196, 197, 198, 199, 200, 201, 202, 203, 204, 205, 206, 207, 208, 209, 210, 211, 212, 213, 214, 215, 216, 217, 218, 219, 220, 221, 222, 223, 224, 225, 226, 227, 228, 229, 230, 231, 232, 233, 234, 235, 236, 237, 238, 239, 240, 241, 242, 243, 244, 245, 246, 247, 248, 249, 250, 251, 252, 253, 254, 255, 256, 257, 258, 259, 260, 261, 262, 263, 264, 265, 266, 267, 268, 269, 270, 271, 272, 273, 274, 275, 276, 277, 278, 279, 280, 281, 282, 283, 284, 285, 286, 287, 288, 289, 290, 291, 292, 293, 294, 295, 296, 297, 298, 299, 300, 301, 302, 303, 304, 305, 306, 307, 308, 309, 310, 311, 312, 313, 314, 323, 324, 325, 326, 327, 328, 329, 330, 331, 320, 321, 322, 332, 333, 334, 335, 336, 337, 338, 339, 340, 341, 342, 343, 344, 345, 346] (by decide +kernel) (by decide +kernel)
set_option maxRecDepth 20000 in
theorem gX11_culprit_X11_look : GoodIn wsX11_culprit (wsV RX11 104 RX11 yX11_look wsX11_look) := goodIn_app (goodIn_of _ (by decide +kernel)) ggX11_culprit_X11_look
set_option maxRecDepth 20000 in
theorem ggX11_culprit_Jx4a65c_size_8abf5 : GoodIn wsX11_culprit wsJx4a65c_size_8abf5 := goodIn_r _ [47, 48, 329, 330, 331] (by decide +kernel) (by decide +kernel)
set_option maxRecDepth 20000 in
theorem gX11_culprit_Jx4a65c_size_8abf5 : GoodIn wsX11_culprit (wsV RX11 34 RJx4a65c yJx4a65c_size_8abf5 wsJx4a65c_size_8abf5) := goodIn_app (goodIn_of _ (by decide +kernel)) ggX11_culprit_Jx4a65c_size_8abf5
theorem dX11_culprit_0 : decode cX11_culprit 0 = .ok (.aload_n 0, 1) := by decide +kernel
theorem dX11_culprit_1 : decode cX11_culprit 1 = .ok (.iconst 0, 1) := by decide +kernel
theorem dX11_culprit_2 : decode cX11_culprit 2 = .ok (.putfield 19, 3) := by decide +kernel
theorem dX11_culprit_5 : decode cX11_culprit 5 = .ok (.iconst (-1), 1) := by decide +kernel
theorem dX11_culprit_6 : decode cX11_culprit 6 = .ok (.istore_n 1, 1) := by decide +kernel
theorem dX11_culprit_7 : decode cX11_culprit 7 = .ok (.aload_n 0, 1) := by decide +kernel
theorem dX11_culprit_8 : decode cX11_culprit 8 = .ok (.invokevirtual 104, 3) := by decide +kernel
theorem dX11_culprit_11 : decode cX11_culprit 11 = .ok (.getfield 155, 3) := by decide +kernel
theorem dX11_culprit_14 : decode cX11_culprit 14 = .ok (.invokevirtual 34, 3) := by decide +kernel
theorem dX11_culprit_17 : decode cX11_culprit 17 = .ok (.istore_n 2, 1) := by decide +kernel
theorem dX11_culprit_18 : decode cX11_culprit 18 = .ok (.iconst 0, 1) := by decide +kernel
theorem dX11_culprit_19 : decode cX11_culprit 19 = .ok (.istore_n 3, 1) := by decide +kernel
theorem dX11_culprit_20 : decode cX11_culprit 20 = .ok (.iload_n 3, 1) := by decide +kernel
theorem dX11_culprit_21 : decode cX11_culprit 21 = .ok (.aload_n 0, 1) := by decide +kernel
theorem dX11_culprit_22 : decode cX11_culprit 22 = .ok (.getfield 16, 3) := by decide +kernel
theorem dX11_culprit_25 : decode cX11_culprit 25 = .ok (.invokevirtual 34, 3) := by decide +kernel
theorem dX11_culprit_28 : decode cX11_culprit 28 = .ok (.if_icmp .ge 30, 3) := by decide +kernel
theorem dX11_culprit_58 : decode cX11_culprit 58 = .ok (.iload_n 1, 1) := by decide +kernel
theorem dX11_culprit_59 : decode cX11_culprit 59 = .ok (.ireturn, 1) := by decide +kernel
set_option maxRecDepth 20000 in
theorem ggX11_density_X11_look : GoodIn wsX11_density wsX11_look := goodIn_r _ [9, 10, 11, 12, 13, 14, 15, 16, 17, 18, 19, 20, 21, 22, 23, 24, 25, 26, 27, 28, 29, 30, 31, 32, 33, 34, 35, 36, 37, 38, 39, 40, 41, 42, 43, 44, 45, 46, 47, 48, 49, 50, 51, 52, 53, 54, 55, 56, 57, 58, 59, 60, 61, 62, 63, 64, 65, 66, 67, 68, 69, 70, 71, 72, 73, 74, 75, 76, 77, 78, 79, 80, 81, 82, 83, 84, 85, 86, 87, 88, 89, 90, 91, 92, 93, 94, 95, 96, 97, 98, 99, 100, 101, 102, 103, 104, 105, 106, 107, 108, 109, 110, 111, 112, 113, 114, 115, 116, 117, 118, 119, 120, 121, 122, 123, 124, 125, 126, 127, 128, 129, 130, 131, 132, 133, 134, 135, 136, 137, 138, 139, 140, 141, 142, 143, 144, 145, 146, 147, 148, 149, 150, 151, 152, 153, 154, 155, 156, 157, 158, 159, 160, 161, 162, 163, 164, 165, 166, 167, 168, 169, 170, 171, 172, 173, 174, 175, 176, 177, 178, 179, 180, 181, 182, 183, 184, 185, 186, 187, 188, 189, 190, 191, 192, 193, 194, 195, 196, 197, 198, 199, 200, 201, 202, 203, 204, 205, 206, 207, 208, 209, 210, 211, 212, 213, 214, 215, 216, 217, 218, 219, 220, 221, 222, 223, 224, 225, 226, 227, 228, 229, 230, 231, 232, 233, 234, 235, 236, 237, 238, 239, 240, 241, 242, 243, 244, 245, 246, 247, 248, 249, 250, 251, 252, 253, 254, 255, 256, 257, 258, 259, 260, 261, 262, 263, 264, 265, 266, 267, 268, 269, 270, 271, 272, 273, 274, 275, 276, 277, 278, 279, 280, 281, 282, 283, 284, 285, 286, 287, 288, 289, 290, 291, 292, 293, 294, 295, 296, 297, 298, 299, 300, 301, 302, 303, 304, 305, 306, 307, 308, 309, 310, 311, 312, 313, 314, 315, 320, 321, 322, 323, 324, 325, 326, 327, 328, 317, 318, 319, 329, 330, 331, 332, 333, 334, 335, 336, 337, 338, 339, 340, 341, 342, 343] (by decide +kernel) (by decide +kernel)
set_option maxRecDepth 20000 in
theorem gX11_density_X11_look : GoodIn wsX11_density (wsV RX11 104 RX11 yX11_look wsX11_look) := goodIn_app (goodIn_of _ (by decide +kernel)) ggX11_density_X11_look
set_option maxRecDepth 20000 in
theorem ggX11_density_Jx4a65c_size_8abf5 : GoodIn wsX11_density wsJx4a65c_size_8abf5 := goodIn_r _ [48, 49, 326, 327, 328] (by decide +kernel) (by decide +kernel)
set_option maxRecDepth 20000 in
theorem gX11_density_Jx4a65c_size_8abf5 : GoodIn wsX11_density (wsV RX11 34 RJx4a65c yJx4a65c_size_8abf5 wsJx4a65c_size_8abf5) := goodIn_app (goodIn_of _ (by decide +kernel)) ggX11_density_Jx4a65c_size_8abf5
theorem dX11_density_0 : decode cX11_density 0 = .ok (.aload_n 0, 1) := by decide +kernel
theorem dX11_density_1 : decode cX11_density 1 = .ok (.iconst 0, 1) := by decide +kernel
theorem dX11_density_2 : decode cX11_density 2 = .ok (.putfield 19, 3) := by decide +kernel
theorem dX11_density_5 : decode cX11_density 5 = .ok (.aload_n 0, 1) := by decide +kernel
theorem dX11_density_6 : decode cX11_density 6 = .ok (.invokevirtual 104, 3) := by decide +kernel
theorem dX11_density_9 : decode cX11_density 9 = .ok (.astore_n 1, 1) := by decide +kernel
theorem dX11_density_10 : decode cX11_density 10 = .ok (.iconst 0, 1) := by decide +kernel
theorem dX11_density_11 : decode cX11_density 11 = .ok (.istore_n 2, 1) := by decide +kernel
theorem dX11_density_12 : decode cX11_density 12 = .ok (.iconst 0, 1) := by decide +kernel
theorem dX11_density_13 : decode cX11_density 13 = .ok (.istore_n 3, 1) := by decide +kernel
theorem dX11_density_14 : decode cX11_density 14 = .ok (.iload_n 3, 1) := by decide +kernel
theorem dX11_density_15 : decode cX11_density 15 = .ok (.aload_n 0, 1) := by decide +kernel
theorem dX11_density_16 : decode cX11_density 16 = .ok (.getfield 16, 3) := by decide +kernel
theorem dX11_density_19 : decode cX11_density 19 = .ok (.invokevirtual 34, 3) := by decide +kernel
theorem dX11_density_22 : decode cX11_density 22 = .ok (.if_icmp .ge 26, 3) := by decide +kernel
theorem dX11_density_48 : decode cX11_density 48 = .ok (.iload_n 2, 1) := by decide +kernel
theorem dX11_density_49 : decode cX11_density 49 = .ok (.ifCond .ne 7, 3) := by decide +kernel
theorem dX11_density_52 : decode cX11_density 52 = .ok (.dconst 0, 1) := by decide +kernel
theorem dX11_density_53 : decode cX11_density 53 = .ok (.goto 14, 3) := by decide +kernel
theorem dX11_density_67 : decode cX11_density 67 = .ok (.dreturn, 1) := by decide +kernel
theorem dX11_add__0 : decode cX11_add_ 0 = .ok (.lload_n 0, 1) := by decide +kernel
theorem dX11_add__1 : decode cX11_add_ 1 = .ok (.ldc2_w 165, 3) := by decide +kernel
theorem dX11_add__4 : decode cX11_add_ 4 = .ok (.lmul, 1) := by decide +kernel
theorem dX11_add__5 : decode cX11_add_ 5 = .ok (.lload_n 2, 1) := by decide +kernel
theorem dX11_add__6 : decode cX11_add_ 6 = .ok (.ladd, 1) := by decide +kernel
theorem dX11_add__7 : decode cX11_add_ 7 = .ok (.lreturn, 1) := by decide +kernel
set_option maxRecDepth 20000 in
theorem ggX11_digest_X11_look : GoodIn wsX11_digest wsX11_look := goodIn_r _ [15, 16, 17, 18, 19, 20, 21, 22, 23, 24, 25, 26, 27, 28, 29, 30, 31, 32, 33, 34, 35, 36, 37, 38, 39, 40, 41, 42, 43, 44, 45, 46, 47, 48, 49, 50, 51, 52, 53, 54, 55, 56, 57, 58, 59, 60, 61, 62, 63, 64, 65, 66, 67, 68, 69, 70, 71, 72, 73, 74, 75, 76, 77, 78, 79, 80, 81, 82, 83, 84, 85, 86, 87, 88, 89, 90, 91, 92, 93, 94, 95, 96, 97, 98, 99, 100, 101, 102, 103, 104, 105, 106, 107, 108, 109, 110, 111, 112, 113, 114, 115, 116, 117, 118, 119, 120, 121, 122, 123, 124, 125, 126, 127, 128, 129, 130, 131, 132, 133, 134, 135, 136, 137, 138, 139, 140, 141, 142, 143, 144, 145, 146, 147, 148, 149, 150, 151, 152, 153, 154, 155, 156, 157, 158, 159, 160, 161, 162, 163, 164, 165, 166, 167, 168, 169, 170, 171, 172, 173, 174, 175, 176, 177, 178, 179, 180, 181, 182, 183, 184, 185, 186, 187, 188, 189, 190, 191, 192, 193, 194, 195, 196, 197, 198, 199, 200, 201, 202, 203, 204, 205, 206, 207, 208, 209, 210, 211, 212, 213, 214, 215, 216, 217, 218, 219, 220, 221, 222, 223, 224, 225, 226, 227, 228, 229, 230, 231, 232, 233, 234, 235, 236, 237, 238, 239, 240, 241, 242, 243, 244, 245, 246, 247, 248, 249, 250, 251, 252, 253, 254, 255, 256, 257, 258, 259, 260, 261, 262, 263, 264, 265, 266, 267, 268, 269, 270, 271, 272, 273, 274, 275, 276, 277, 278, 279, 280, 281, 282, 283, 284, 285, 286, 287, 288, 289, 290, 291, 292, 293, 294, 295, 296, 297, 298, 299, 300, 301, 302, 303, 304, 305, 306, 307, 308, 309, 310, 311, 312, 313, 314, 315, 316, 317, 318, 319, 320, 321, 360, 361, 362, 363, 364, 365, 372, 373, 374, 357, 358, 359, 375, 376, 377, 378, 379, 380, 381, 382, 383, 366, 367, 368, 369, 370, 371] (by decide +kernel) (by decide +kernel)
set_option maxRecDepth 20000 in
theorem gX11_digest_X11_look : GoodIn wsX11_digest (wsV RX11 104 RX11 yX11_look wsX11_look) := goodIn_app (goodIn_of _ (by decide +kernel)) ggX11_digest_X11_look
set_option maxRecDepth 20000 in
theorem ggX11_digest_Jx4a65c_size_8abf5 : GoodIn wsX11_digest wsJx4a65c_size_8abf5 := goodIn_r _ [54, 55, 372, 373, 374] (by decide +kernel) (by decide +kernel)
set_option maxRecDepth 20000 in
theorem gX11_digest_Jx4a65c_size_8abf5 : GoodIn wsX11_digest (wsV RX11 34 RJx4a65c yJx4a65c_size_8abf5 wsJx4a65c_size_8abf5) := goodIn_app (goodIn_of _ (by decide +kernel)) ggX11_digest_Jx4a65c_size_8abf5
set_option maxRecDepth 20000 in
theorem ggX11_digest_X11_add_ : GoodIn wsX11_digest wsX11_add_ := goodIn_r _ [325, 326] (by decide +kernel) (by decide +kernel)
set_option maxRecDepth 20000 in
theorem gX11_digest_X11_add_ : GoodIn wsX11_digest (va_wsS RX11 169 yX11_add_ wsX11_add_) := goodIn_app (goodIn_of _ (by decide +kernel)) ggX11_digest_X11_add_
set_option maxRecDepth 20000 in
theorem ggX11_digest_X11_loans : GoodIn wsX11_digest wsX11_loans := goodIn_r _ [330, 4, 322, 52, 53, 28, 54, 55, 331, 311, 312, 18, 313, 33, 138, 139, 140, 141, 30, 22, 142, 102, 81, 82, 83, 84, 85, 86, 87, 88, 89, 90, 91, 92, 93, 94, 95, 40, 143, 144, 145, 146, 147, 148, 357, 358, 359, 372, 373, 374, 360, 361, 362, 363, 364, 365, 366, 367, 368, 369, 370, 371] (by decide +kernel) (by decide +kernel)
set_option maxRecDepth 20000 in
theorem gX11_digest_X11_loans : GoodIn wsX11_digest (wsV RX11 144 RX11 yX11_loans wsX11_loans) := goodIn_app (goodIn_of _ (by decide +kernel)) ggX11_digest_X11_loans
set_option maxRecDepth 20000 in
theorem ggX11_digest_X11_many_ : GoodIn wsX11_digest wsX11_many_ := goodIn_r _ [356, 10, 322, 52, 53, 28, 54, 55, 332, 81, 82, 83, 84, 85, 86, 87, 88, 89, 90, 91, 92, 93, 94, 95, 40, 372, 373, 374] (by decide +kernel) (by decide +kernel)
set_option maxRecDepth 20000 in
theorem gX11_digest_X11_many_ : GoodIn wsX11_digest (va_wsS RX11 159 yX11_many_ wsX11_many_) := goodIn_app (goodIn_of _ (by decide +kernel)) ggX11_digest_X11_many_
theorem dX11_digest_0 : decode cX11_digest 0 = .ok (.aload_n 0, 1) := by decide +kernel
theorem dX11_digest_1 : decode cX11_digest 1 = .ok (.iconst 0, 1) := by decide +kernel
theorem dX11_digest_2 : decode cX11_digest 2 = .ok (.putfield 19, 3) := by decide +kernel
theorem dX11_digest_5 : decode cX11_digest 5 = .ok (.aload_n 0, 1) := by decide +kernel
theorem dX11_digest_6 : decode cX11_digest 6 = .ok (.invokevirtual 104, 3) := by decide +kernel
theorem dX11_digest_9 : decode cX11_digest 9 = .ok (.astore_n 1, 1) := by decide +kernel
theorem dX11_digest_10 : decode cX11_digest 10 = .ok (.ldc2_w 167, 3) := by decide +kernel
theorem dX11_digest_13 : decode cX11_digest 13 = .ok (.aload_n 0, 1) := by decide +kernel
theorem dX11_digest_14 : decode cX11_digest 14 = .ok (.getfield 10, 3) := by decide +kernel
theorem dX11_digest_17 : decode cX11_digest 17 = .ok (.invokevirtual 34, 3) := by decide +kernel
theorem dX11_digest_20 : decode cX11_digest 20 = .ok (.i2l, 1) := by decide +kernel
theorem dX11_digest_21 : decode cX11_digest 21 = .ok (.invokestatic 169, 3) := by decide +kernel
theorem dX11_digest_24 : decode cX11_digest 24 = .ok (.aload_n 0, 1) := by decide +kernel
theorem dX11_digest_25 : decode cX11_digest 25 = .ok (.getfield 16, 3) := by decide +kernel
theorem dX11_digest_28 : decode cX11_digest 28 = .ok (.invokevirtual 34, 3) := by decide +kernel
theorem dX11_digest_31 : decode cX11_digest 31 = .ok (.i2l, 1) := by decide +kernel
theorem dX11_digest_32 : decode cX11_digest 32 = .ok (.invokestatic 169, 3) := by decide +kernel
theorem dX11_digest_35 : decode cX11_digest 35 = .ok (.aload_n 0, 1) := by decide +kernel
theorem dX11_digest_36 : decode cX11_digest 36 = .ok (.aload_n 1, 1) := by decide +kernel
theorem dX11_digest_37 : decode cX11_digest 37 = .ok (.invokevirtual 144, 3) := by decide +kernel
theorem dX11_digest_40 : decode cX11_digest 40 = .ok (.i2l, 1) := by decide +kernel
theorem dX11_digest_41 : decode cX11_digest 41 = .ok (.invokestatic 169, 3) := by decide +kernel
theorem dX11_digest_44 : decode cX11_digest 44 = .ok (.aload_n 1, 1) := by decide +kernel
theorem dX11_digest_45 : decode cX11_digest 45 = .ok (.getfield 155, 3) := by decide +kernel
theorem dX11_digest_48 : decode cX11_digest 48 = .ok (.invokevirtual 34, 3) := by decide +kernel
theorem dX11_digest_51 : decode cX11_digest 51 = .ok (.i2l, 1) := by decide +kernel
theorem dX11_digest_52 : decode cX11_digest 52 = .ok (.invokestatic 169, 3) := by decide +kernel
theorem dX11_digest_55 : decode cX11_digest 55 = .ok (.lstore_n 2, 1) := by decide +kernel
theorem dX11_digest_56 : decode cX11_digest 56 = .ok (.iconst 0, 1) := by decide +kernel
theorem dX11_digest_57 : decode cX11_digest 57 = .ok (.istore 4, 2) := by decide +kernel
theorem dX11_digest_59 : decode cX11_digest 59 = .ok (.iload 4, 2) := by decide +kernel
theorem dX11_digest_61 : decode cX11_digest 61 = .ok (.aload_n 0, 1) := by decide +kernel
theorem dX11_digest_62 : decode cX11_digest 62 = .ok (.getfield 16, 3) := by decide +kernel
theorem dX11_digest_65 : decode cX11_digest 65 = .ok (.invokevirtual 34, 3) := by decide +kernel
theorem dX11_digest_68 : decode cX11_digest 68 = .ok (.if_icmp .ge 120, 3) := by decide +kernel
theorem dX11_digest_188 : decode cX11_digest 188 = .ok (.iconst 0, 1) := by decide +kernel
theorem dX11_digest_189 : decode cX11_digest 189 = .ok (.istore 4, 2) := by decide +kernel
theorem dX11_digest_191 : decode cX11_digest 191 = .ok (.iload 4, 2) := by decide +kernel
theorem dX11_digest_193 : decode cX11_digest 193 = .ok (.aload_n 1, 1) := by decide +kernel
theorem dX11_digest_194 : decode cX11_digest 194 = .ok (.getfield 155, 3) := by decide +kernel
theorem dX11_digest_197 : decode cX11_digest 197 = .ok (.invokevirtual 34, 3) := by decide +kernel
theorem dX11_digest_200 : decode cX11_digest 200 = .ok (.if_icmp .ge 46, 3) := by decide +kernel
theorem dX11_digest_246 : decode cX11_digest 246 = .ok (.iconst 1, 1) := by decide +kernel
theorem dX11_digest_247 : decode cX11_digest 247 = .ok (.istore 4, 2) := by decide +kernel
theorem dX11_digest_249 : decode cX11_digest 249 = .ok (.iload 4, 2) := by decide +kernel
theorem dX11_digest_251 : decode cX11_digest 251 = .ok (.bipush 6, 2) := by decide +kernel
theorem dX11_digest_253 : decode cX11_digest 253 = .ok (.if_icmp .gt 25, 3) := by decide +kernel
theorem dX11_digest_256 : decode cX11_digest 256 = .ok (.lload_n 2, 1) := by decide +kernel
theorem dX11_digest_257 : decode cX11_digest 257 = .ok (.aload_n 1, 1) := by decide +kernel
theorem dX11_digest_258 : decode cX11_digest 258 = .ok (.getfield 155, 3) := by decide +kernel
theorem dX11_digest_261 : decode cX11_digest 261 = .ok (.iconst 1, 1) := by decide +kernel
theorem dX11_digest_262 : decode cX11_digest 262 = .ok (.iload 4, 2) := by decide +kernel
theorem dX11_digest_264 : decode cX11_digest 264 = .ok (.invokestatic 159, 3) := by decide +kernel
theorem dX11_digest_267 : decode cX11_digest 267 = .ok (.i2l, 1) := by decide +kernel
theorem dX11_digest_268 : decode cX11_digest 268 = .ok (.invokestatic 169, 3) := by decide +kernel
theorem dX11_digest_271 : decode cX11_digest 271 = .ok (.lstore_n 2, 1) := by decide +kernel
theorem dX11_digest_272 : decode cX11_digest 272 = .ok (.iinc 4 1, 3) := by decide +kernel
theorem dX11_digest_275 : decode cX11_digest 275 = .ok (.goto (-26), 3) := by decide +kernel
theorem dX11_digest_278 : decode cX11_digest 278 = .ok (.lload_n 2, 1) := by decide +kernel
theorem dX11_digest_279 : decode cX11_digest 279 = .ok (.lreturn, 1) := by decide +kernel
theorem dJxa1e45_init_da8c8_0 : decode cJxa1e45_init_da8c8 0 = .ok (.aload_n 0, 1) := by decide +kernel
theorem dJxa1e45_init_da8c8_1 : decode cJxa1e45_init_da8c8 1 = .ok (.invokespecial 1, 3) := by decide +kernel
theorem dJxa1e45_init_da8c8_4 : decode cJxa1e45_init_da8c8 4 = .ok (.return_, 1) := by decide +kernel
set_option maxRecDepth 20000 in
theorem ggJxc12de_init_da8c8_Jxa1e45_init_da8c8 : GoodIn wsJxc12de_init_da8c8 wsJxa1e45_init_da8c8 := goodIn_r _ [5, 6, 7, 8] (by decide +kernel) (by decide +kernel)
theorem dJxc12de_init_da8c8_0 : decode cJxc12de_init_da8c8 0 = .ok (.aload_n 0, 1) := by decide +kernel
theorem dJxc12de_init_da8c8_1 : decode cJxc12de_init_da8c8 1 = .ok (.invokespecial 1, 3) := by decide +kernel
theorem dJxc12de_init_da8c8_4 : decode cJxc12de_init_da8c8 4 = .ok (.aload_n 0, 1) := by decide +kernel
theorem dJxc12de_init_da8c8_5 : decode cJxc12de_init_da8c8 5 = .ok (.iconst 0, 1) := by decide +kernel
theorem dJxc12de_init_da8c8_6 : decode cJxc12de_init_da8c8 6 = .ok (.putfield 7, 3) := by decide +kernel
theorem dJxc12de_init_da8c8_9 : decode cJxc12de_init_da8c8 9 = .ok (.return_, 1) := by decide +kernel
set_option maxRecDepth 20000 in
theorem ggJx4a65c_init_da8c8_Jxc12de_init_da8c8 : GoodIn wsJx4a65c_init_da8c8 wsJxc12de_init_da8c8 := goodIn_r _ [6, 7, 8, 9, 10, 11, 12, 13, 14, 15, 16, 17] (by decide +kernel) (by decide +kernel)
theorem dJx4a65c_init_da8c8_0 : decode cJx4a65c_init_da8c8 0 = .ok (.aload_n 0, 1) := by decide +kernel
theorem dJx4a65c_init_da8c8_1 : decode cJx4a65c_init_da8c8 1 = .ok (.invokespecial 1, 3) := by decide +kernel
theorem dJx4a65c_init_da8c8_4 : decode cJx4a65c_init_da8c8 4 = .ok (.aload_n 0, 1) := by decide +kernel
theorem dJx4a65c_init_da8c8_5 : decode cJx4a65c_init_da8c8 5 = .ok (.getstatic 39, 3) := by decide +kernel
theorem dJx4a65c_init_da8c8_8 : decode cJx4a65c_init_da8c8 8 = .ok (.putfield 9, 3) := by decide +kernel
theorem dJx4a65c_init_da8c8_11 : decode cJx4a65c_init_da8c8 11 = .ok (.return_, 1) := by decide +kernel
theorem dJx4a65c_grow_92f84_0 : decode cJx4a65c_grow_92f84 0 = .ok (.aload_n 0, 1) := by decide +kernel
theorem dJx4a65c_grow_92f84_1 : decode cJx4a65c_grow_92f84 1 = .ok (.getfield 9, 3) := by decide +kernel
theorem dJx4a65c_grow_92f84_4 : decode cJx4a65c_grow_92f84 4 = .ok (.arraylength, 1) := by decide +kernel
theorem dJx4a65c_grow_92f84_5 : decode cJx4a65c_grow_92f84 5 = .ok (.istore_n 2, 1) := by decide +kernel
theorem dJx4a65c_grow_92f84_6 : decode cJx4a65c_grow_92f84 6 = .ok (.iload_n 2, 1) := by decide +kernel
theorem dJx4a65c_grow_92f84_7 : decode cJx4a65c_grow_92f84 7 = .ok (.ifCond .gt 13, 3) := by decide +kernel
theorem dJx4a65c_grow_92f84_10 : decode cJx4a65c_grow_92f84 10 = .ok (.aload_n 0, 1) := by decide +kernel
theorem dJx4a65c_grow_92f84_11 : decode cJx4a65c_grow_92f84 11 = .ok (.getfield 9, 3) := by decide +kernel
theorem dJx4a65c_grow_92f84_14 : decode cJx4a65c_grow_92f84 14 = .ok (.getstatic 39, 3) := by decide +kernel
theorem dJx4a65c_grow_92f84_17 : decode cJx4a65c_grow_92f84 17 = .ok (.if_acmp .eq 28, 3) := by decide +kernel
theorem dJx4a65c_grow_92f84_45 : decode cJx4a65c_grow_92f84 45 = .ok (.aload_n 0, 1) := by decide +kernel
theorem dJx4a65c_grow_92f84_46 : decode cJx4a65c_grow_92f84 46 = .ok (.bipush 10, 2) := by decide +kernel
theorem dJx4a65c_grow_92f84_48 : decode cJx4a65c_grow_92f84 48 = .ok (.iload_n 1, 1) := by decide +kernel
theorem dJx4a65c_grow_92f84_49 : decode cJx4a65c_grow_92f84 49 = .ok (.invokestatic 79, 3) := by decide +kernel
theorem dJx4a65c_grow_92f84_52 : decode cJx4a65c_grow_92f84 52 = .ok (.anewarray 7, 3) := by decide +kernel
theorem dJx4a65c_grow_92f84_55 : decode cJx4a65c_grow_92f84 55 = .ok (.dup_x1, 1) := by decide +kernel
theorem dJx4a65c_grow_92f84_56 : decode cJx4a65c_grow_92f84 56 = .ok (.putfield 9, 3) := by decide +kernel
theorem dJx4a65c_grow_92f84_59 : decode cJx4a65c_grow_92f84 59 = .ok (.areturn, 1) := by decide +kernel
set_option maxRecDepth 20000 in
theorem ggJx4a65c_grow_d5877_Jx4a65c_grow_92f84 : GoodIn wsJx4a65c_grow_d5877 wsJx4a65c_grow_92f84 := goodIn_r _ [6, 7, 8, 9, 10, 11, 12, 13, 14, 15, 16, 17, 18, 19, 20, 21, 22, 23, 24, 25, 26, 27, 28, 29, 30, 31, 32, 33, 34, 35, 36, 37, 38, 39, 40, 41, 42, 43, 44, 45] (by decide +kernel) (by decide +kernel)
set_option maxRecDepth 20000 in
theorem gJx4a65c_grow_d5877_Jx4a65c_grow_92f84 : GoodIn wsJx4a65c_grow_d5877 (wsV RJx4a65c 69 RJx4a65c yJx4a65c_grow_92f84 wsJx4a65c_grow_92f84) := goodIn_app (goodIn_of _ (by decide +kernel)) ggJx4a65c_grow_d5877_Jx4a65c_grow_92f84
theorem dJx4a65c_grow_d5877_0 : decode cJx4a65c_grow_d5877 0 = .ok (.aload_n 0, 1) := by decide +kernel
theorem dJx4a65c_grow_d5877_1 : decode cJx4a65c_grow_d5877 1 = .ok (.aload_n 0, 1) := by decide +kernel
theorem dJx4a65c_grow_d5877_2 : decode cJx4a65c_grow_d5877 2 = .ok (.getfield 48, 3) := by decide +kernel
theorem dJx4a65c_grow_d5877_5 : decode cJx4a65c_grow_d5877 5 = .ok (.iconst 1, 1) := by decide +kernel
theorem dJx4a65c_grow_d5877_6 : decode cJx4a65c_grow_d5877 6 = .ok (.iadd, 1) := by decide +kernel
theorem dJx4a65c_grow_d5877_7 : decode cJx4a65c_grow_d5877 7 = .ok (.invokevirtual 69, 3) := by decide +kernel
theorem dJx4a65c_grow_d5877_10 : decode cJx4a65c_grow_d5877 10 = .ok (.areturn, 1) := by decide +kernel
theorem dJx4a65c_size_8abf5_0 : decode cJx4a65c_size_8abf5 0 = .ok (.aload_n 0, 1) := by decide +kernel
theorem dJx4a65c_size_8abf5_1 : decode cJx4a65c_size_8abf5 1 = .ok (.getfield 48, 3) := by decide +kernel
theorem dJx4a65c_size_8abf5_4 : decode cJx4a65c_size_8abf5 4 = .ok (.ireturn, 1) := by decide +kernel
theorem dJx4a65c_isEmpty_aae02_0 : decode cJx4a65c_isEmpty_aae02 0 = .ok (.aload_n 0, 1) := by decide +kernel
theorem dJx4a65c_isEmpty_aae02_1 : decode cJx4a65c_isEmpty_aae02 1 = .ok (.getfield 48, 3) := by decide +kernel
theorem dJx4a65c_isEmpty_aae02_4 : decode cJx4a65c_isEmpty_aae02 4 = .ok (.ifCond .ne 7, 3) := by decide +kernel
theorem dJx4a65c_isEmpty_aae02_7 : decode cJx4a65c_isEmpty_aae02 7 = .ok (.iconst 1, 1) := by decide +kernel
theorem dJx4a65c_isEmpty_aae02_8 : decode cJx4a65c_isEmpty_aae02 8 = .ok (.goto 4, 3) := by decide +kernel
theorem dJx4a65c_isEmpty_aae02_12 : decode cJx4a65c_isEmpty_aae02 12 = .ok (.ireturn, 1) := by decide +kernel
set_option maxRecDepth 20000 in
theorem ggJx4a65c_add_72be8_Jx4a65c_grow_d5877 : GoodIn wsJx4a65c_add_72be8 wsJx4a65c_grow_d5877 := goodIn_r _ [6, 1, 7, 8, 9, 5, 10, 11, 12, 13, 14, 15, 16, 17, 18, 19, 20, 21, 22, 23, 24, 25, 26, 27, 28, 29, 30, 31, 32, 33, 34, 35, 36, 37, 38, 39, 40, 41, 42, 43, 44, 45, 46, 47, 48, 49] (by decide +kernel) (by decide +kernel)
set_option maxRecDepth 20000 in
theorem gJx4a65c_add_72be8_Jx4a65c_grow_d5877 : GoodIn wsJx4a65c_add_72be8 (wsV RJx4a65c 129 RJx4a65c yJx4a65c_grow_d5877 wsJx4a65c_grow_d5877) := goodIn_app (goodIn_of _ (by decide +kernel)) ggJx4a65c_add_72be8_Jx4a65c_grow_d5877
theorem dJx4a65c_add_72be8_0 : decode cJx4a65c_add_72be8 0 = .ok (.iload_n 3, 1) := by decide +kernel
theorem dJx4a65c_add_72be8_1 : decode cJx4a65c_add_72be8 1 = .ok (.aload_n 2, 1) := by decide +kernel
theorem dJx4a65c_add_72be8_2 : decode cJx4a65c_add_72be8 2 = .ok (.arraylength, 1) := by decide +kernel
theorem dJx4a65c_add_72be8_3 : decode cJx4a65c_add_72be8 3 = .ok (.if_icmp .ne 8, 3) := by decide +kernel
theorem dJx4a65c_add_72be8_6 : decode cJx4a65c_add_72be8 6 = .ok (.aload_n 0, 1) := by decide +kernel
theorem dJx4a65c_add_72be8_7 : decode cJx4a65c_add_72be8 7 = .ok (.invokevirtual 129, 3) := by decide +kernel
theorem dJx4a65c_add_72be8_10 : decode cJx4a65c_add_72be8 10 = .ok (.astore_n 2, 1) := by decide +kernel
theorem dJx4a65c_add_72be8_11 : decode cJx4a65c_add_72be8 11 = .ok (.aload_n 2, 1) := by decide +kernel
theorem dJx4a65c_add_72be8_12 : decode cJx4a65c_add_72be8 12 = .ok (.iload_n 3, 1) := by decide +kernel
theorem dJx4a65c_add_72be8_13 : decode cJx4a65c_add_72be8 13 = .ok (.aload_n 1, 1) := by decide +kernel
theorem dJx4a65c_add_72be8_14 : decode cJx4a65c_add_72be8 14 = .ok (.aastore, 1) := by decide +kernel
theorem dJx4a65c_add_72be8_15 : decode cJx4a65c_add_72be8 15 = .ok (.aload_n 0, 1) := by decide +kernel
theorem dJx4a65c_add_72be8_16 : decode cJx4a65c_add_72be8 16 = .ok (.iload_n 3, 1) := by decide +kernel
theorem dJx4a65c_add_72be8_17 : decode cJx4a65c_add_72be8 17 = .ok (.iconst 1, 1) := by decide +kernel
theorem dJx4a65c_add_72be8_18 : decode cJx4a65c_add_72be8 18 = .ok (.iadd, 1) := by decide +kernel
theorem dJx4a65c_add_72be8_19 : decode cJx4a65c_add_72be8 19 = .ok (.putfield 48, 3) := by decide +kernel
theorem dJx4a65c_add_72be8_22 : decode cJx4a65c_add_72be8 22 = .ok (.return_, 1) := by decide +kernel
set_option maxRecDepth 20000 in
theorem ggJx4a65c_add_9ea2d_Jx4a65c_add_72be8 : GoodIn wsJx4a65c_add_9ea2d wsJx4a65c_add_72be8 := goodIn_r _ [9, 4, 10, 11, 12, 8, 13, 14, 15, 16, 17, 3, 18, 19, 20, 21, 22, 23, 24, 25, 26, 27, 28, 29, 30, 31, 32, 33, 34, 35, 36, 37, 38, 39, 40, 41, 42, 43, 44, 45, 46, 47, 48, 49, 50, 51, 52, 53, 54, 55] (by decide +kernel) (by decide +kernel)
set_option maxRecDepth 20000 in
theorem gJx4a65c_add_9ea2d_Jx4a65c_add_72be8 : GoodIn wsJx4a65c_add_9ea2d (wsV RJx4a65c 131 RJx4a65c yJx4a65c_add_72be8 wsJx4a65c_add_72be8) := goodIn_app (goodIn_of _ (by decide +kernel)) ggJx4a65c_add_9ea2d_Jx4a65c_add_72be8
theorem dJx4a65c_add_9ea2d_0 : decode cJx4a65c_add_9ea2d 0 = .ok (.aload_n 0, 1) := by decide +kernel
theorem dJx4a65c_add_9ea2d_1 : decode cJx4a65c_add_9ea2d 1 = .ok (.dup, 1) := by decide +kernel
theorem dJx4a65c_add_9ea2d_2 : decode cJx4a65c_add_9ea2d 2 = .ok (.getfield 63, 3) := by decide +kernel
theorem dJx4a65c_add_9ea2d_5 : decode cJx4a65c_add_9ea2d 5 = .ok (.iconst 1, 1) := by decide +kernel
theorem dJx4a65c_add_9ea2d_6 : decode cJx4a65c_add_9ea2d 6 = .ok (.iadd, 1) := by decide +kernel
theorem dJx4a65c_add_9ea2d_7 : decode cJx4a65c_add_9ea2d 7 = .ok (.putfield 63, 3) := by decide +kernel
theorem dJx4a65c_add_9ea2d_10 : decode cJx4a65c_add_9ea2d 10 = .ok (.aload_n 0, 1) := by decide +kernel
theorem dJx4a65c_add_9ea2d_11 : decode cJx4a65c_add_9ea2d 11 = .ok (.aload_n 1, 1) := by decide +kernel
theorem dJx4a65c_add_9ea2d_12 : decode cJx4a65c_add_9ea2d 12 = .ok (.aload_n 0, 1) := by decide +kernel
theorem dJx4a65c_add_9ea2d_13 : decode cJx4a65c_add_9ea2d 13 = .ok (.getfield 9, 3) := by decide +kernel
theorem dJx4a65c_add_9ea2d_16 : decode cJx4a65c_add_9ea2d 16 = .ok (.aload_n 0, 1) := by decide +kernel
theorem dJx4a65c_add_9ea2d_17 : decode cJx4a65c_add_9ea2d 17 = .ok (.getfield 48, 3) := by decide +kernel
theorem dJx4a65c_add_9ea2d_20 : decode cJx4a65c_add_9ea2d 20 = .ok (.invokevirtual 131, 3) := by decide +kernel
theorem dJx4a65c_add_9ea2d_23 : decode cJx4a65c_add_9ea2d 23 = .ok (.iconst 1, 1) := by decide +kernel
theorem dJx4a65c_add_9ea2d_24 : decode cJx4a65c_add_9ea2d 24 = .ok (.ireturn, 1) := by decide +kernel
