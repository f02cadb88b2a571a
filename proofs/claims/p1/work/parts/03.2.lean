theorem dX0_passWeek_0 : decode cX0_passWeek 0 = .ok (.aload_n 1, 1) := by decide +kernel
theorem dX0_passWeek_1 : decode cX0_passWeek 1 = .ok (.dup, 1) := by decide +kernel
theorem dX0_passWeek_2 : decode cX0_passWeek 2 = .ok (.getfield 36, 3) := by decide +kernel
theorem dX0_passWeek_5 : decode cX0_passWeek 5 = .ok (.iconst 1, 1) := by decide +kernel
theorem dX0_passWeek_6 : decode cX0_passWeek 6 = .ok (.iadd, 1) := by decide +kernel
theorem dX0_passWeek_7 : decode cX0_passWeek 7 = .ok (.putfield 36, 3) := by decide +kernel
theorem dX0_passWeek_10 : decode cX0_passWeek 10 = .ok (.iconst 0, 1) := by decide +kernel
theorem dX0_passWeek_11 : decode cX0_passWeek 11 = .ok (.istore_n 2, 1) := by decide +kernel
theorem dX0_passWeek_12 : decode cX0_passWeek 12 = .ok (.iload_n 2, 1) := by decide +kernel
theorem dX0_passWeek_13 : decode cX0_passWeek 13 = .ok (.aload_n 0, 1) := by decide +kernel
theorem dX0_passWeek_14 : decode cX0_passWeek 14 = .ok (.getfield 9, 3) := by decide +kernel
theorem dX0_passWeek_17 : decode cX0_passWeek 17 = .ok (.getfield 53, 3) := by decide +kernel
theorem dX0_passWeek_20 : decode cX0_passWeek 20 = .ok (.if_icmp .ge 49, 3) := by decide +kernel
theorem dX0_passWeek_23 : decode cX0_passWeek 23 = .ok (.aload_n 0, 1) := by decide +kernel
theorem dX0_passWeek_24 : decode cX0_passWeek 24 = .ok (.getfield 9, 3) := by decide +kernel
theorem dX0_passWeek_27 : decode cX0_passWeek 27 = .ok (.getfield 15, 3) := by decide +kernel
theorem dX0_passWeek_30 : decode cX0_passWeek 30 = .ok (.iload_n 2, 1) := by decide +kernel
theorem dX0_passWeek_31 : decode cX0_passWeek 31 = .ok (.iaload, 1) := by decide +kernel
theorem dX0_passWeek_32 : decode cX0_passWeek 32 = .ok (.iconst 1, 1) := by decide +kernel
theorem dX0_passWeek_33 : decode cX0_passWeek 33 = .ok (.if_icmp .eq 30, 3) := by decide +kernel
theorem dX0_passWeek_36 : decode cX0_passWeek 36 = .ok (.aload_n 1, 1) := by decide +kernel
theorem dX0_passWeek_37 : decode cX0_passWeek 37 = .ok (.getfield 33, 3) := by decide +kernel
theorem dX0_passWeek_40 : decode cX0_passWeek 40 = .ok (.iload_n 2, 1) := by decide +kernel
theorem dX0_passWeek_41 : decode cX0_passWeek 41 = .ok (.iaload, 1) := by decide +kernel
theorem dX0_passWeek_42 : decode cX0_passWeek 42 = .ok (.aload_n 0, 1) := by decide +kernel
theorem dX0_passWeek_43 : decode cX0_passWeek 43 = .ok (.getfield 9, 3) := by decide +kernel
theorem dX0_passWeek_46 : decode cX0_passWeek 46 = .ok (.getfield 80, 3) := by decide +kernel
theorem dX0_passWeek_49 : decode cX0_passWeek 49 = .ok (.iadd, 1) := by decide +kernel
theorem dX0_passWeek_50 : decode cX0_passWeek 50 = .ok (.istore_n 3, 1) := by decide +kernel
theorem dX0_passWeek_51 : decode cX0_passWeek 51 = .ok (.aload_n 1, 1) := by decide +kernel
theorem dX0_passWeek_52 : decode cX0_passWeek 52 = .ok (.getfield 33, 3) := by decide +kernel
theorem dX0_passWeek_55 : decode cX0_passWeek 55 = .ok (.iload_n 2, 1) := by decide +kernel
theorem dX0_passWeek_56 : decode cX0_passWeek 56 = .ok (.iload_n 3, 1) := by decide +kernel
theorem dX0_passWeek_57 : decode cX0_passWeek 57 = .ok (.bipush 60, 2) := by decide +kernel
theorem dX0_passWeek_59 : decode cX0_passWeek 59 = .ok (.invokestatic 83, 3) := by decide +kernel
theorem dX0_passWeek_62 : decode cX0_passWeek 62 = .ok (.iastore, 1) := by decide +kernel
theorem dX0_passWeek_63 : decode cX0_passWeek 63 = .ok (.iinc 2 1, 3) := by decide +kernel
theorem dX0_passWeek_66 : decode cX0_passWeek 66 = .ok (.goto (-54), 3) := by decide +kernel
theorem dX0_passWeek_69 : decode cX0_passWeek 69 = .ok (.return_, 1) := by decide +kernel
theorem dX1_copy_0 : decode cX1_copy 0 = .ok (.aload_n 0, 1) := by decide +kernel
theorem dX1_copy_1 : decode cX1_copy 1 = .ok (.aload_n 1, 1) := by decide +kernel
theorem dX1_copy_2 : decode cX1_copy 2 = .ok (.getfield 21, 3) := by decide +kernel
theorem dX1_copy_5 : decode cX1_copy 5 = .ok (.putfield 21, 3) := by decide +kernel
theorem dX1_copy_8 : decode cX1_copy 8 = .ok (.aload_n 1, 1) := by decide +kernel
theorem dX1_copy_9 : decode cX1_copy 9 = .ok (.getfield 9, 3) := by decide +kernel
theorem dX1_copy_12 : decode cX1_copy 12 = .ok (.iconst 0, 1) := by decide +kernel
theorem dX1_copy_13 : decode cX1_copy 13 = .ok (.aload_n 0, 1) := by decide +kernel
theorem dX1_copy_14 : decode cX1_copy 14 = .ok (.getfield 9, 3) := by decide +kernel
theorem dX1_copy_17 : decode cX1_copy 17 = .ok (.iconst 0, 1) := by decide +kernel
theorem dX1_copy_18 : decode cX1_copy 18 = .ok (.aload_n 0, 1) := by decide +kernel
theorem dX1_copy_19 : decode cX1_copy 19 = .ok (.getfield 21, 3) := by decide +kernel
theorem dX1_copy_22 : decode cX1_copy 22 = .ok (.invokestatic 25, 3) := by decide +kernel
theorem dX1_copy_25 : decode cX1_copy 25 = .ok (.aload_n 1, 1) := by decide +kernel
theorem dX1_copy_26 : decode cX1_copy 26 = .ok (.getfield 15, 3) := by decide +kernel
theorem dX1_copy_29 : decode cX1_copy 29 = .ok (.iconst 0, 1) := by decide +kernel
theorem dX1_copy_30 : decode cX1_copy 30 = .ok (.aload_n 0, 1) := by decide +kernel
theorem dX1_copy_31 : decode cX1_copy 31 = .ok (.getfield 15, 3) := by decide +kernel
theorem dX1_copy_34 : decode cX1_copy 34 = .ok (.iconst 0, 1) := by decide +kernel
theorem dX1_copy_35 : decode cX1_copy 35 = .ok (.aload_n 0, 1) := by decide +kernel
theorem dX1_copy_36 : decode cX1_copy 36 = .ok (.getfield 21, 3) := by decide +kernel
theorem dX1_copy_39 : decode cX1_copy 39 = .ok (.invokestatic 25, 3) := by decide +kernel
theorem dX1_copy_42 : decode cX1_copy 42 = .ok (.aload_n 1, 1) := by decide +kernel
theorem dX1_copy_43 : decode cX1_copy 43 = .ok (.getfield 18, 3) := by decide +kernel
theorem dX1_copy_46 : decode cX1_copy 46 = .ok (.iconst 0, 1) := by decide +kernel
theorem dX1_copy_47 : decode cX1_copy 47 = .ok (.aload_n 0, 1) := by decide +kernel
theorem dX1_copy_48 : decode cX1_copy 48 = .ok (.getfield 18, 3) := by decide +kernel
theorem dX1_copy_51 : decode cX1_copy 51 = .ok (.iconst 0, 1) := by decide +kernel
theorem dX1_copy_52 : decode cX1_copy 52 = .ok (.aload_n 0, 1) := by decide +kernel
theorem dX1_copy_53 : decode cX1_copy 53 = .ok (.getfield 21, 3) := by decide +kernel
theorem dX1_copy_56 : decode cX1_copy 56 = .ok (.invokestatic 25, 3) := by decide +kernel
theorem dX1_copy_59 : decode cX1_copy 59 = .ok (.return_, 1) := by decide +kernel
set_option maxRecDepth 20000 in
theorem ggX1_read_X9_begin : GoodIn wsX1_read wsX9_begin := goodIn_r _ [9, 10, 11, 12, 13, 14, 8, 15, 16, 17, 18, 19, 20, 21, 22, 23, 24, 25, 26, 27, 28, 29, 30, 31, 32, 33, 34, 35, 36, 37, 38, 39, 40, 41, 42, 43, 44, 45, 46, 47, 48, 49, 50, 51, 52, 53, 54, 55, 56, 57, 58, 59, 60, 61, 62, 63, 64, 65, 66, 67, 68, 69, 70, 71, 72, 73, 74, 75, 76, 77, 78, 79, 80, 81, 82, 83, 84, 85, 86, 87, 88, 89, 90, 91, 92, 93, 94, 95, 96, 97, 156, 157, 158, 159, 160, 161, 162, 163] (by decide +kernel) (by decide +kernel)
set_option maxRecDepth 20000 in
theorem gX1_read_X9_begin : GoodIn wsX1_read (wsV RX1 31 RX9 yX9_begin wsX9_begin) := goodIn_app (goodIn_of _ (by decide +kernel)) ggX1_read_X9_begin
set_option maxRecDepth 20000 in
theorem ggX1_read_X1_readLine : GoodIn wsX1_read wsX1_readLine := goodIn_r _ [102, 1, 103, 104, 105, 106, 107, 101, 108, 2, 109, 110, 111, 112, 113, 114, 115, 8, 116, 18, 11, 117, 13, 14, 15, 10, 16, 17, 19, 20, 21, 22, 23, 24, 25, 26, 27, 28, 29, 30, 31, 32, 33, 34, 35, 36, 37, 38, 39, 40, 41, 42, 43, 44, 45, 46, 47, 48, 49, 50, 51, 52, 53, 54, 55, 56, 57, 58, 59, 60, 61, 62, 63, 64, 65, 66, 67, 68, 69, 70, 71, 72, 73, 74, 75, 76, 77, 78, 79, 80, 81, 82, 83, 84, 85, 86, 87, 88, 89, 90, 91, 92, 93, 94, 95, 96, 97, 118, 119, 120, 121, 122, 123, 124, 125, 126, 127, 128, 129, 130, 131, 132, 133, 134, 135, 136, 137, 12, 138, 139, 140, 141, 142, 143, 144, 145, 146, 147, 152, 153, 154, 155, 156, 157, 158, 159, 160, 161, 162, 163, 164, 165, 166, 167, 168, 169, 170, 171, 172, 173, 174, 175, 176] (by decide +kernel) (by decide +kernel)
set_option maxRecDepth 20000 in
theorem gX1_read_X1_readLine : GoodIn wsX1_read (wsV RX1 45 RX1 yX1_readLine wsX1_readLine) := goodIn_app (goodIn_of _ (by decide +kernel)) ggX1_read_X1_readLine
set_option maxRecDepth 20000 in
theorem ggX1_read_X9_take : GoodIn wsX1_read wsX9_take := goodIn_r _ [151, 20, 133, 114, 115, 8, 116, 18, 11, 12, 13, 14, 15, 10, 16, 17, 19, 21, 22, 23, 24, 25, 26, 27, 28, 29, 30, 31, 32, 33, 34, 35, 36, 37, 38, 39, 40, 41, 42, 43, 44, 45, 46, 47, 48, 49, 50, 51, 52, 53, 54, 55, 56, 57, 58, 59, 60, 61, 62, 63, 64, 65, 66, 67, 68, 69, 70, 71, 72, 73, 74, 75, 76, 77, 78, 79, 80, 81, 82, 83, 84, 85, 86, 87, 88, 89, 90, 91, 92, 93, 94, 95, 96, 97, 156, 157, 158, 159, 160, 161, 162, 163] (by decide +kernel) (by decide +kernel)
set_option maxRecDepth 20000 in
theorem gX1_read_X9_take : GoodIn wsX1_read (wsV RX1 52 RX9 yX9_take wsX9_take) := goodIn_app (goodIn_of _ (by decide +kernel)) ggX1_read_X9_take
theorem dX1_read_0 : decode cX1_read 0 = .ok (.aload_n 0, 1) := by decide +kernel
theorem dX1_read_1 : decode cX1_read 1 = .ok (.iconst 0, 1) := by decide +kernel
theorem dX1_read_2 : decode cX1_read 2 = .ok (.putfield 21, 3) := by decide +kernel
theorem dX1_read_5 : decode cX1_read 5 = .ok (.aload_n 1, 1) := by decide +kernel
theorem dX1_read_6 : decode cX1_read 6 = .ok (.invokevirtual 31, 3) := by decide +kernel
theorem dX1_read_9 : decode cX1_read 9 = .ok (.iconst 0, 1) := by decide +kernel
theorem dX1_read_10 : decode cX1_read 10 = .ok (.istore_n 3, 1) := by decide +kernel
theorem dX1_read_11 : decode cX1_read 11 = .ok (.iload_n 3, 1) := by decide +kernel
theorem dX1_read_12 : decode cX1_read 12 = .ok (.sipush 1000, 3) := by decide +kernel
theorem dX1_read_15 : decode cX1_read 15 = .ok (.if_icmp .ge 40, 3) := by decide +kernel
theorem dX1_read_18 : decode cX1_read 18 = .ok (.aload_n 1, 1) := by decide +kernel
theorem dX1_read_19 : decode cX1_read 19 = .ok (.getfield 36, 3) := by decide +kernel
theorem dX1_read_22 : decode cX1_read 22 = .ok (.getstatic 40, 3) := by decide +kernel
theorem dX1_read_25 : decode cX1_read 25 = .ok (.if_acmp .eq 30, 3) := by decide +kernel
theorem dX1_read_28 : decode cX1_read 28 = .ok (.aload_n 0, 1) := by decide +kernel
theorem dX1_read_29 : decode cX1_read 29 = .ok (.aload_n 1, 1) := by decide +kernel
theorem dX1_read_30 : decode cX1_read 30 = .ok (.aload_n 2, 1) := by decide +kernel
theorem dX1_read_31 : decode cX1_read 31 = .ok (.invokevirtual 45, 3) := by decide +kernel
theorem dX1_read_34 : decode cX1_read 34 = .ok (.ifCond .eq 13, 3) := by decide +kernel
theorem dX1_read_37 : decode cX1_read 37 = .ok (.aload_n 1, 1) := by decide +kernel
theorem dX1_read_38 : decode cX1_read 38 = .ok (.getstatic 49, 3) := by decide +kernel
theorem dX1_read_41 : decode cX1_read 41 = .ok (.invokevirtual 52, 3) := by decide +kernel
theorem dX1_read_44 : decode cX1_read 44 = .ok (.ifCond .ne 5, 3) := by decide +kernel
theorem dX1_read_47 : decode cX1_read 47 = .ok (.iconst 0, 1) := by decide +kernel
theorem dX1_read_48 : decode cX1_read 48 = .ok (.ireturn, 1) := by decide +kernel
theorem dX1_read_49 : decode cX1_read 49 = .ok (.iinc 3 1, 3) := by decide +kernel
theorem dX1_read_52 : decode cX1_read 52 = .ok (.goto (-41), 3) := by decide +kernel
theorem dX1_read_55 : decode cX1_read 55 = .ok (.iconst 1, 1) := by decide +kernel
theorem dX1_read_56 : decode cX1_read 56 = .ok (.ireturn, 1) := by decide +kernel
set_option maxRecDepth 20000 in
theorem ggX2_clear_J7_fill_53178 : GoodIn wsX2_clear wsJ7_fill_53178 := goodIn_r _ [10] (by decide +kernel) (by decide +kernel)
set_option maxRecDepth 20000 in
theorem gX2_clear_J7_fill_53178 : GoodIn wsX2_clear (va_wsS RX2 60 yJ7_fill_53178 wsJ7_fill_53178) := goodIn_app (goodIn_of _ (by decide +kernel)) ggX2_clear_J7_fill_53178
set_option maxRecDepth 20000 in
theorem ggX2_clear_X4_beAsUntold : GoodIn wsX2_clear wsX4_beAsUntold := goodIn_r _ [15, 16, 17, 18, 19, 14, 20, 21, 35, 36, 37] (by decide +kernel) (by decide +kernel)
set_option maxRecDepth 20000 in
theorem gX2_clear_X4_beAsUntold : GoodIn wsX2_clear (wsV RX2 57 RX4 yX4_beAsUntold wsX4_beAsUntold) := goodIn_app (goodIn_of _ (by decide +kernel)) ggX2_clear_X4_beAsUntold
theorem dX2_clear_0 : decode cX2_clear 0 = .ok (.aload_n 0, 1) := by decide +kernel
theorem dX2_clear_1 : decode cX2_clear 1 = .ok (.iconst 0, 1) := by decide +kernel
theorem dX2_clear_2 : decode cX2_clear 2 = .ok (.putfield 44, 3) := by decide +kernel
theorem dX2_clear_5 : decode cX2_clear 5 = .ok (.aload_n 0, 1) := by decide +kernel
theorem dX2_clear_6 : decode cX2_clear 6 = .ok (.iconst 0, 1) := by decide +kernel
theorem dX2_clear_7 : decode cX2_clear 7 = .ok (.putfield 48, 3) := by decide +kernel
theorem dX2_clear_10 : decode cX2_clear 10 = .ok (.aload_n 0, 1) := by decide +kernel
theorem dX2_clear_11 : decode cX2_clear 11 = .ok (.iconst 1, 1) := by decide +kernel
theorem dX2_clear_12 : decode cX2_clear 12 = .ok (.putfield 51, 3) := by decide +kernel
theorem dX2_clear_15 : decode cX2_clear 15 = .ok (.aload_n 0, 1) := by decide +kernel
theorem dX2_clear_16 : decode cX2_clear 16 = .ok (.iconst 2, 1) := by decide +kernel
theorem dX2_clear_17 : decode cX2_clear 17 = .ok (.putfield 54, 3) := by decide +kernel
theorem dX2_clear_20 : decode cX2_clear 20 = .ok (.aload_n 0, 1) := by decide +kernel
theorem dX2_clear_21 : decode cX2_clear 21 = .ok (.getfield 15, 3) := by decide +kernel
theorem dX2_clear_24 : decode cX2_clear 24 = .ok (.iconst 0, 1) := by decide +kernel
theorem dX2_clear_25 : decode cX2_clear 25 = .ok (.invokestatic 60, 3) := by decide +kernel
theorem dX2_clear_28 : decode cX2_clear 28 = .ok (.aload_n 0, 1) := by decide +kernel
theorem dX2_clear_29 : decode cX2_clear 29 = .ok (.getfield 40, 3) := by decide +kernel
theorem dX2_clear_32 : decode cX2_clear 32 = .ok (.invokevirtual 57, 3) := by decide +kernel
theorem dX2_clear_35 : decode cX2_clear 35 = .ok (.return_, 1) := by decide +kernel
set_option maxRecDepth 20000 in
theorem ggX2_copy_X4_copy : GoodIn wsX2_copy wsX4_copy := goodIn_r _ [22, 23, 24, 25, 7, 8, 9, 39, 40, 41] (by decide +kernel) (by decide +kernel)
set_option maxRecDepth 20000 in
theorem gX2_copy_X4_copy : GoodIn wsX2_copy (wsV RX2 72 RX4 yX4_copy wsX4_copy) := goodIn_app (goodIn_of _ (by decide +kernel)) ggX2_copy_X4_copy
theorem dX2_copy_0 : decode cX2_copy 0 = .ok (.aload_n 0, 1) := by decide +kernel
theorem dX2_copy_1 : decode cX2_copy 1 = .ok (.aload_n 1, 1) := by decide +kernel
theorem dX2_copy_2 : decode cX2_copy 2 = .ok (.getfield 44, 3) := by decide +kernel
theorem dX2_copy_5 : decode cX2_copy 5 = .ok (.putfield 44, 3) := by decide +kernel
theorem dX2_copy_8 : decode cX2_copy 8 = .ok (.aload_n 0, 1) := by decide +kernel
theorem dX2_copy_9 : decode cX2_copy 9 = .ok (.aload_n 1, 1) := by decide +kernel
theorem dX2_copy_10 : decode cX2_copy 10 = .ok (.getfield 48, 3) := by decide +kernel
theorem dX2_copy_13 : decode cX2_copy 13 = .ok (.putfield 48, 3) := by decide +kernel
theorem dX2_copy_16 : decode cX2_copy 16 = .ok (.aload_n 0, 1) := by decide +kernel
theorem dX2_copy_17 : decode cX2_copy 17 = .ok (.aload_n 1, 1) := by decide +kernel
theorem dX2_copy_18 : decode cX2_copy 18 = .ok (.getfield 51, 3) := by decide +kernel
theorem dX2_copy_21 : decode cX2_copy 21 = .ok (.putfield 51, 3) := by decide +kernel
theorem dX2_copy_24 : decode cX2_copy 24 = .ok (.aload_n 0, 1) := by decide +kernel
theorem dX2_copy_25 : decode cX2_copy 25 = .ok (.aload_n 1, 1) := by decide +kernel
theorem dX2_copy_26 : decode cX2_copy 26 = .ok (.getfield 54, 3) := by decide +kernel
theorem dX2_copy_29 : decode cX2_copy 29 = .ok (.putfield 54, 3) := by decide +kernel
theorem dX2_copy_32 : decode cX2_copy 32 = .ok (.aload_n 1, 1) := by decide +kernel
theorem dX2_copy_33 : decode cX2_copy 33 = .ok (.getfield 9, 3) := by decide +kernel
theorem dX2_copy_36 : decode cX2_copy 36 = .ok (.iconst 0, 1) := by decide +kernel
theorem dX2_copy_37 : decode cX2_copy 37 = .ok (.aload_n 0, 1) := by decide +kernel
theorem dX2_copy_38 : decode cX2_copy 38 = .ok (.getfield 9, 3) := by decide +kernel
theorem dX2_copy_41 : decode cX2_copy 41 = .ok (.iconst 0, 1) := by decide +kernel
theorem dX2_copy_42 : decode cX2_copy 42 = .ok (.bipush 6, 2) := by decide +kernel
theorem dX2_copy_44 : decode cX2_copy 44 = .ok (.invokestatic 66, 3) := by decide +kernel
theorem dX2_copy_47 : decode cX2_copy 47 = .ok (.aload_n 1, 1) := by decide +kernel
theorem dX2_copy_48 : decode cX2_copy 48 = .ok (.getfield 15, 3) := by decide +kernel
theorem dX2_copy_51 : decode cX2_copy 51 = .ok (.iconst 0, 1) := by decide +kernel
theorem dX2_copy_52 : decode cX2_copy 52 = .ok (.aload_n 0, 1) := by decide +kernel
theorem dX2_copy_53 : decode cX2_copy 53 = .ok (.getfield 15, 3) := by decide +kernel
theorem dX2_copy_56 : decode cX2_copy 56 = .ok (.iconst 0, 1) := by decide +kernel
theorem dX2_copy_57 : decode cX2_copy 57 = .ok (.bipush 6, 2) := by decide +kernel
theorem dX2_copy_59 : decode cX2_copy 59 = .ok (.invokestatic 66, 3) := by decide +kernel
theorem dX2_copy_62 : decode cX2_copy 62 = .ok (.aload_n 1, 1) := by decide +kernel
theorem dX2_copy_63 : decode cX2_copy 63 = .ok (.getfield 18, 3) := by decide +kernel
theorem dX2_copy_66 : decode cX2_copy 66 = .ok (.iconst 0, 1) := by decide +kernel
theorem dX2_copy_67 : decode cX2_copy 67 = .ok (.aload_n 0, 1) := by decide +kernel
theorem dX2_copy_68 : decode cX2_copy 68 = .ok (.getfield 18, 3) := by decide +kernel
theorem dX2_copy_71 : decode cX2_copy 71 = .ok (.iconst 0, 1) := by decide +kernel
theorem dX2_copy_72 : decode cX2_copy 72 = .ok (.bipush 6, 2) := by decide +kernel
theorem dX2_copy_74 : decode cX2_copy 74 = .ok (.invokestatic 66, 3) := by decide +kernel
theorem dX2_copy_77 : decode cX2_copy 77 = .ok (.aload_n 1, 1) := by decide +kernel
theorem dX2_copy_78 : decode cX2_copy 78 = .ok (.getfield 22, 3) := by decide +kernel
theorem dX2_copy_81 : decode cX2_copy 81 = .ok (.iconst 0, 1) := by decide +kernel
theorem dX2_copy_82 : decode cX2_copy 82 = .ok (.aload_n 0, 1) := by decide +kernel
theorem dX2_copy_83 : decode cX2_copy 83 = .ok (.getfield 22, 3) := by decide +kernel
theorem dX2_copy_86 : decode cX2_copy 86 = .ok (.iconst 0, 1) := by decide +kernel
theorem dX2_copy_87 : decode cX2_copy 87 = .ok (.bipush 6, 2) := by decide +kernel
theorem dX2_copy_89 : decode cX2_copy 89 = .ok (.invokestatic 66, 3) := by decide +kernel
theorem dX2_copy_92 : decode cX2_copy 92 = .ok (.aload_n 1, 1) := by decide +kernel
theorem dX2_copy_93 : decode cX2_copy 93 = .ok (.getfield 25, 3) := by decide +kernel
theorem dX2_copy_96 : decode cX2_copy 96 = .ok (.iconst 0, 1) := by decide +kernel
theorem dX2_copy_97 : decode cX2_copy 97 = .ok (.aload_n 0, 1) := by decide +kernel
theorem dX2_copy_98 : decode cX2_copy 98 = .ok (.getfield 25, 3) := by decide +kernel
theorem dX2_copy_101 : decode cX2_copy 101 = .ok (.iconst 0, 1) := by decide +kernel
theorem dX2_copy_102 : decode cX2_copy 102 = .ok (.bipush 6, 2) := by decide +kernel
theorem dX2_copy_104 : decode cX2_copy 104 = .ok (.invokestatic 66, 3) := by decide +kernel
theorem dX2_copy_107 : decode cX2_copy 107 = .ok (.aload_n 1, 1) := by decide +kernel
theorem dX2_copy_108 : decode cX2_copy 108 = .ok (.getfield 28, 3) := by decide +kernel
theorem dX2_copy_111 : decode cX2_copy 111 = .ok (.iconst 0, 1) := by decide +kernel
theorem dX2_copy_112 : decode cX2_copy 112 = .ok (.aload_n 0, 1) := by decide +kernel
theorem dX2_copy_113 : decode cX2_copy 113 = .ok (.getfield 28, 3) := by decide +kernel
theorem dX2_copy_116 : decode cX2_copy 116 = .ok (.iconst 0, 1) := by decide +kernel
theorem dX2_copy_117 : decode cX2_copy 117 = .ok (.bipush 6, 2) := by decide +kernel
theorem dX2_copy_119 : decode cX2_copy 119 = .ok (.invokestatic 66, 3) := by decide +kernel
theorem dX2_copy_122 : decode cX2_copy 122 = .ok (.aload_n 1, 1) := by decide +kernel
theorem dX2_copy_123 : decode cX2_copy 123 = .ok (.getfield 31, 3) := by decide +kernel
theorem dX2_copy_126 : decode cX2_copy 126 = .ok (.iconst 0, 1) := by decide +kernel
theorem dX2_copy_127 : decode cX2_copy 127 = .ok (.aload_n 0, 1) := by decide +kernel
theorem dX2_copy_128 : decode cX2_copy 128 = .ok (.getfield 31, 3) := by decide +kernel
theorem dX2_copy_131 : decode cX2_copy 131 = .ok (.iconst 0, 1) := by decide +kernel
theorem dX2_copy_132 : decode cX2_copy 132 = .ok (.bipush 6, 2) := by decide +kernel
theorem dX2_copy_134 : decode cX2_copy 134 = .ok (.invokestatic 66, 3) := by decide +kernel
theorem dX2_copy_137 : decode cX2_copy 137 = .ok (.aload_n 1, 1) := by decide +kernel
theorem dX2_copy_138 : decode cX2_copy 138 = .ok (.getfield 34, 3) := by decide +kernel
theorem dX2_copy_141 : decode cX2_copy 141 = .ok (.iconst 0, 1) := by decide +kernel
theorem dX2_copy_142 : decode cX2_copy 142 = .ok (.aload_n 0, 1) := by decide +kernel
theorem dX2_copy_143 : decode cX2_copy 143 = .ok (.getfield 34, 3) := by decide +kernel
theorem dX2_copy_146 : decode cX2_copy 146 = .ok (.iconst 0, 1) := by decide +kernel
theorem dX2_copy_147 : decode cX2_copy 147 = .ok (.bipush 6, 2) := by decide +kernel
theorem dX2_copy_149 : decode cX2_copy 149 = .ok (.invokestatic 66, 3) := by decide +kernel
theorem dX2_copy_152 : decode cX2_copy 152 = .ok (.aload_n 0, 1) := by decide +kernel
theorem dX2_copy_153 : decode cX2_copy 153 = .ok (.getfield 40, 3) := by decide +kernel
theorem dX2_copy_156 : decode cX2_copy 156 = .ok (.aload_n 1, 1) := by decide +kernel
theorem dX2_copy_157 : decode cX2_copy 157 = .ok (.getfield 40, 3) := by decide +kernel
theorem dX2_copy_160 : decode cX2_copy 160 = .ok (.invokevirtual 72, 3) := by decide +kernel
theorem dX2_copy_163 : decode cX2_copy 163 = .ok (.return_, 1) := by decide +kernel
theorem dX2_mostAsked_0 : decode cX2_mostAsked 0 = .ok (.iconst 0, 1) := by decide +kernel
theorem dX2_mostAsked_1 : decode cX2_mostAsked 1 = .ok (.istore_n 1, 1) := by decide +kernel
theorem dX2_mostAsked_2 : decode cX2_mostAsked 2 = .ok (.iconst 0, 1) := by decide +kernel
theorem dX2_mostAsked_3 : decode cX2_mostAsked 3 = .ok (.istore_n 2, 1) := by decide +kernel
theorem dX2_mostAsked_4 : decode cX2_mostAsked 4 = .ok (.iload_n 2, 1) := by decide +kernel
theorem dX2_mostAsked_5 : decode cX2_mostAsked 5 = .ok (.aload_n 0, 1) := by decide +kernel
theorem dX2_mostAsked_6 : decode cX2_mostAsked 6 = .ok (.getfield 44, 3) := by decide +kernel
theorem dX2_mostAsked_9 : decode cX2_mostAsked 9 = .ok (.if_icmp .ge 20, 3) := by decide +kernel
theorem dX2_mostAsked_12 : decode cX2_mostAsked 12 = .ok (.iload_n 1, 1) := by decide +kernel
theorem dX2_mostAsked_13 : decode cX2_mostAsked 13 = .ok (.aload_n 0, 1) := by decide +kernel
theorem dX2_mostAsked_14 : decode cX2_mostAsked 14 = .ok (.getfield 9, 3) := by decide +kernel
theorem dX2_mostAsked_17 : decode cX2_mostAsked 17 = .ok (.iload_n 2, 1) := by decide +kernel
theorem dX2_mostAsked_18 : decode cX2_mostAsked 18 = .ok (.iaload, 1) := by decide +kernel
theorem dX2_mostAsked_19 : decode cX2_mostAsked 19 = .ok (.invokestatic 76, 3) := by decide +kernel
theorem dX2_mostAsked_22 : decode cX2_mostAsked 22 = .ok (.istore_n 1, 1) := by decide +kernel
theorem dX2_mostAsked_23 : decode cX2_mostAsked 23 = .ok (.iinc 2 1, 3) := by decide +kernel
theorem dX2_mostAsked_26 : decode cX2_mostAsked 26 = .ok (.goto (-22), 3) := by decide +kernel
theorem dX2_mostAsked_29 : decode cX2_mostAsked 29 = .ok (.iload_n 1, 1) := by decide +kernel
theorem dX2_mostAsked_30 : decode cX2_mostAsked 30 = .ok (.ireturn, 1) := by decide +kernel
set_option maxRecDepth 20000 in
theorem ggX3_read_X2_clear : GoodIn wsX3_read wsX2_clear := goodIn_r _ [11, 12, 13, 14, 15, 16, 17, 18, 19, 20, 21, 22, 23, 24, 25, 26, 27, 28, 29, 30, 31, 32, 279, 280, 281, 282, 283, 284, 285, 286, 287, 288, 289, 290, 291, 292, 293, 294] (by decide +kernel) (by decide +kernel)
set_option maxRecDepth 20000 in
theorem gX3_read_X2_clear : GoodIn wsX3_read (wsV RX3 21 RX2 yX2_clear wsX2_clear) := goodIn_app (goodIn_of _ (by decide +kernel)) ggX3_read_X2_clear
set_option maxRecDepth 20000 in
theorem ggX3_read_X9_begin : GoodIn wsX3_read wsX9_begin := goodIn_r _ [37, 38, 39, 40, 41, 42, 36, 43, 44, 45, 46, 47, 48, 49, 50, 51, 52, 53, 54, 55, 56, 57, 58, 59, 60, 61, 62, 63, 64, 65, 66, 67, 68, 69, 70, 71, 72, 73, 74, 75, 76, 77, 78, 79, 80, 81, 82, 83, 84, 85, 86, 87, 88, 89, 90, 91, 92, 93, 94, 95, 96, 97, 98, 99, 100, 101, 102, 103, 104, 105, 106, 107, 108, 109, 110, 111, 112, 113, 114, 115, 116, 117, 118, 119, 120, 121, 122, 123, 124, 125, 271, 272, 273, 274, 275, 276, 277, 278] (by decide +kernel) (by decide +kernel)
set_option maxRecDepth 20000 in
theorem gX3_read_X9_begin : GoodIn wsX3_read (wsV RX3 26 RX9 yX9_begin wsX9_begin) := goodIn_app (goodIn_of _ (by decide +kernel)) ggX3_read_X9_begin
set_option maxRecDepth 20000 in
theorem ggX3_read_X3_readLine : GoodIn wsX3_read wsX3_readLine := goodIn_r _ [130, 4, 131, 132, 133, 134, 135, 136, 137, 138, 139, 140, 141, 129, 142, 143, 144, 145, 146, 147, 148, 149, 150, 36, 151, 46, 39, 152, 41, 42, 43, 38, 44, 45, 47, 48, 49, 50, 51, 52, 53, 54, 55, 56, 57, 58, 59, 60, 61, 62, 63, 64, 65, 66, 67, 68, 69, 70, 71, 72, 73, 74, 75, 76, 77, 78, 79, 80, 81, 82, 83, 84, 85, 86, 87, 88, 89, 90, 91, 92, 93, 94, 95, 96, 97, 98, 99, 100, 101, 102, 103, 104, 105, 106, 107, 108, 109, 110, 111, 112, 113, 114, 115, 116, 117, 118, 119, 120, 121, 122, 123, 124, 125, 153, 154, 155, 156, 157, 158, 159, 10, 160, 12, 161, 162, 163, 164, 165, 13, 166, 167, 168, 169, 170, 171, 40, 172, 173, 174, 175, 176, 177, 178, 179, 180, 181, 182, 183, 184, 185, 186, 187, 188, 189, 190, 191, 192, 193, 194, 195, 196, 197, 198, 199, 200, 201, 202, 203, 204, 205, 206, 207, 208, 209, 210, 211, 212, 213, 214, 215, 1, 216, 217, 218, 219, 220, 2, 221, 222, 223, 224, 225, 3, 226, 227, 25, 228, 229, 230, 231, 232, 233, 234, 235, 236, 28, 29, 30, 31, 27, 32, 237, 238, 239, 240, 241, 242, 243, 244, 245, 246, 247, 248, 249, 250, 251, 252, 253, 254, 255, 256, 257, 258, 259, 260, 261, 262, 263, 264, 265, 266, 267, 271, 272, 273, 274, 275, 276, 277, 278, 279, 280, 281, 282, 283, 284, 285, 286, 287, 288, 289, 290, 291, 268, 269, 270, 292, 293, 294] (by decide +kernel) (by decide +kernel)
set_option maxRecDepth 20000 in
theorem gX3_read_X3_readLine : GoodIn wsX3_read (wsV RX3 40 RX3 yX3_readLine wsX3_readLine) := goodIn_app (goodIn_of _ (by decide +kernel)) ggX3_read_X3_readLine
set_option maxRecDepth 20000 in
theorem ggX3_read_X9_take : GoodIn wsX3_read wsX9_take := goodIn_r _ [170, 48, 171, 149, 150, 36, 151, 46, 39, 40, 41, 42, 43, 38, 44, 45, 47, 49, 50, 51, 52, 53, 54, 55, 56, 57, 58, 59, 60, 61, 62, 63, 64, 65, 66, 67, 68, 69, 70, 71, 72, 73, 74, 75, 76, 77, 78, 79, 80, 81, 82, 83, 84, 85, 86, 87, 88, 89, 90, 91, 92, 93, 94, 95, 96, 97, 98, 99, 100, 101, 102, 103, 104, 105, 106, 107, 108, 109, 110, 111, 112, 113, 114, 115, 116, 117, 118, 119, 120, 121, 122, 123, 124, 125, 271, 272, 273, 274, 275, 276, 277, 278] (by decide +kernel) (by decide +kernel)
set_option maxRecDepth 20000 in
theorem gX3_read_X9_take : GoodIn wsX3_read (wsV RX3 47 RX9 yX9_take wsX9_take) := goodIn_app (goodIn_of _ (by decide +kernel)) ggX3_read_X9_take
theorem dX3_read_0 : decode cX3_read 0 = .ok (.aload_n 2, 1) := by decide +kernel
theorem dX3_read_1 : decode cX3_read 1 = .ok (.invokevirtual 21, 3) := by decide +kernel
theorem dX3_read_4 : decode cX3_read 4 = .ok (.aload_n 0, 1) := by decide +kernel
theorem dX3_read_5 : decode cX3_read 5 = .ok (.iconst 0, 1) := by decide +kernel
theorem dX3_read_6 : decode cX3_read 6 = .ok (.putfield 9, 3) := by decide +kernel
theorem dX3_read_9 : decode cX3_read 9 = .ok (.aload_n 0, 1) := by decide +kernel
theorem dX3_read_10 : decode cX3_read 10 = .ok (.iconst 0, 1) := by decide +kernel
theorem dX3_read_11 : decode cX3_read 11 = .ok (.putfield 15, 3) := by decide +kernel
theorem dX3_read_14 : decode cX3_read 14 = .ok (.aload_n 0, 1) := by decide +kernel
theorem dX3_read_15 : decode cX3_read 15 = .ok (.iconst 0, 1) := by decide +kernel
theorem dX3_read_16 : decode cX3_read 16 = .ok (.putfield 18, 3) := by decide +kernel
theorem dX3_read_19 : decode cX3_read 19 = .ok (.aload_n 1, 1) := by decide +kernel
theorem dX3_read_20 : decode cX3_read 20 = .ok (.invokevirtual 26, 3) := by decide +kernel
theorem dX3_read_23 : decode cX3_read 23 = .ok (.iconst 0, 1) := by decide +kernel
theorem dX3_read_24 : decode cX3_read 24 = .ok (.istore_n 3, 1) := by decide +kernel
theorem dX3_read_25 : decode cX3_read 25 = .ok (.iload_n 3, 1) := by decide +kernel
theorem dX3_read_26 : decode cX3_read 26 = .ok (.sipush 1000, 3) := by decide +kernel
theorem dX3_read_29 : decode cX3_read 29 = .ok (.if_icmp .ge 40, 3) := by decide +kernel
theorem dX3_read_32 : decode cX3_read 32 = .ok (.aload_n 1, 1) := by decide +kernel
theorem dX3_read_33 : decode cX3_read 33 = .ok (.getfield 31, 3) := by decide +kernel
theorem dX3_read_36 : decode cX3_read 36 = .ok (.getstatic 35, 3) := by decide +kernel
theorem dX3_read_39 : decode cX3_read 39 = .ok (.if_acmp .eq 30, 3) := by decide +kernel
theorem dX3_read_42 : decode cX3_read 42 = .ok (.aload_n 0, 1) := by decide +kernel
theorem dX3_read_43 : decode cX3_read 43 = .ok (.aload_n 1, 1) := by decide +kernel
theorem dX3_read_44 : decode cX3_read 44 = .ok (.aload_n 2, 1) := by decide +kernel
theorem dX3_read_45 : decode cX3_read 45 = .ok (.invokevirtual 40, 3) := by decide +kernel
theorem dX3_read_48 : decode cX3_read 48 = .ok (.ifCond .eq 13, 3) := by decide +kernel
theorem dX3_read_51 : decode cX3_read 51 = .ok (.aload_n 1, 1) := by decide +kernel
theorem dX3_read_52 : decode cX3_read 52 = .ok (.getstatic 44, 3) := by decide +kernel
theorem dX3_read_55 : decode cX3_read 55 = .ok (.invokevirtual 47, 3) := by decide +kernel
theorem dX3_read_58 : decode cX3_read 58 = .ok (.ifCond .ne 5, 3) := by decide +kernel
theorem dX3_read_61 : decode cX3_read 61 = .ok (.iconst 0, 1) := by decide +kernel
theorem dX3_read_62 : decode cX3_read 62 = .ok (.ireturn, 1) := by decide +kernel
theorem dX3_read_63 : decode cX3_read 63 = .ok (.iinc 3 1, 3) := by decide +kernel
theorem dX3_read_66 : decode cX3_read 66 = .ok (.goto (-41), 3) := by decide +kernel
theorem dX3_read_69 : decode cX3_read 69 = .ok (.iconst 1, 1) := by decide +kernel
theorem dX3_read_70 : decode cX3_read 70 = .ok (.ireturn, 1) := by decide +kernel
theorem dX4_copy_0 : decode cX4_copy 0 = .ok (.aload_n 0, 1) := by decide +kernel
theorem dX4_copy_1 : decode cX4_copy 1 = .ok (.aload_n 1, 1) := by decide +kernel
theorem dX4_copy_2 : decode cX4_copy 2 = .ok (.getfield 18, 3) := by decide +kernel
theorem dX4_copy_5 : decode cX4_copy 5 = .ok (.putfield 18, 3) := by decide +kernel
theorem dX4_copy_8 : decode cX4_copy 8 = .ok (.aload_n 1, 1) := by decide +kernel
theorem dX4_copy_9 : decode cX4_copy 9 = .ok (.getfield 9, 3) := by decide +kernel
theorem dX4_copy_12 : decode cX4_copy 12 = .ok (.iconst 0, 1) := by decide +kernel
theorem dX4_copy_13 : decode cX4_copy 13 = .ok (.aload_n 0, 1) := by decide +kernel
theorem dX4_copy_14 : decode cX4_copy 14 = .ok (.getfield 9, 3) := by decide +kernel
theorem dX4_copy_17 : decode cX4_copy 17 = .ok (.iconst 0, 1) := by decide +kernel
theorem dX4_copy_18 : decode cX4_copy 18 = .ok (.aload_n 0, 1) := by decide +kernel
theorem dX4_copy_19 : decode cX4_copy 19 = .ok (.getfield 18, 3) := by decide +kernel
theorem dX4_copy_22 : decode cX4_copy 22 = .ok (.invokestatic 26, 3) := by decide +kernel
theorem dX4_copy_25 : decode cX4_copy 25 = .ok (.return_, 1) := by decide +kernel
set_option maxRecDepth 20000 in
theorem ggX5_lay_X8_copy : GoodIn wsX5_lay wsX8_copy := goodIn_r _ [9, 10, 11, 12, 13, 14, 15, 16, 17, 18, 19, 41, 42, 43, 44, 45, 46] (by decide +kernel) (by decide +kernel)
set_option maxRecDepth 20000 in
theorem gX5_lay_X8_copy : GoodIn wsX5_lay (wsV RX5 34 RX8 yX8_copy wsX8_copy) := goodIn_app (goodIn_of _ (by decide +kernel)) ggX5_lay_X8_copy
set_option maxRecDepth 20000 in
theorem ggX5_lay_X1_copy : GoodIn wsX5_lay wsX1_copy := goodIn_r _ [24, 25, 26, 27, 13, 14, 15, 28, 29, 47, 48, 49, 50] (by decide +kernel) (by decide +kernel)
set_option maxRecDepth 20000 in
theorem gX5_lay_X1_copy : GoodIn wsX5_lay (wsV RX5 38 RX1 yX1_copy wsX1_copy) := goodIn_app (goodIn_of _ (by decide +kernel)) ggX5_lay_X1_copy
set_option maxRecDepth 20000 in
theorem ggX5_lay_X6_copy : GoodIn wsX5_lay wsX6_copy := goodIn_r _ [34, 35, 36, 51, 52] (by decide +kernel) (by decide +kernel)
set_option maxRecDepth 20000 in
theorem gX5_lay_X6_copy : GoodIn wsX5_lay (wsV RX5 41 RX6 yX6_copy wsX6_copy) := goodIn_app (goodIn_of _ (by decide +kernel)) ggX5_lay_X6_copy
theorem dX5_lay_0 : decode cX5_lay 0 = .ok (.aload_n 0, 1) := by decide +kernel
theorem dX5_lay_1 : decode cX5_lay 1 = .ok (.getfield 10, 3) := by decide +kernel
theorem dX5_lay_4 : decode cX5_lay 4 = .ok (.aload_n 1, 1) := by decide +kernel
theorem dX5_lay_5 : decode cX5_lay 5 = .ok (.invokevirtual 34, 3) := by decide +kernel
theorem dX5_lay_8 : decode cX5_lay 8 = .ok (.aload_n 0, 1) := by decide +kernel
theorem dX5_lay_9 : decode cX5_lay 9 = .ok (.getfield 19, 3) := by decide +kernel
theorem dX5_lay_12 : decode cX5_lay 12 = .ok (.aload_n 2, 1) := by decide +kernel
theorem dX5_lay_13 : decode cX5_lay 13 = .ok (.invokevirtual 38, 3) := by decide +kernel
theorem dX5_lay_16 : decode cX5_lay 16 = .ok (.aload_n 0, 1) := by decide +kernel
theorem dX5_lay_17 : decode cX5_lay 17 = .ok (.getfield 26, 3) := by decide +kernel
theorem dX5_lay_20 : decode cX5_lay 20 = .ok (.aload_n 3, 1) := by decide +kernel
theorem dX5_lay_21 : decode cX5_lay 21 = .ok (.invokevirtual 41, 3) := by decide +kernel
theorem dX5_lay_24 : decode cX5_lay 24 = .ok (.aload_n 0, 1) := by decide +kernel
theorem dX5_lay_25 : decode cX5_lay 25 = .ok (.iconst 1, 1) := by decide +kernel
theorem dX5_lay_26 : decode cX5_lay 26 = .ok (.putfield 30, 3) := by decide +kernel
theorem dX5_lay_29 : decode cX5_lay 29 = .ok (.return_, 1) := by decide +kernel
theorem dX6_clear_0 : decode cX6_clear 0 = .ok (.aload_n 0, 1) := by decide +kernel
theorem dX6_clear_1 : decode cX6_clear 1 = .ok (.ldc 9, 2) := by decide +kernel
theorem dX6_clear_3 : decode cX6_clear 3 = .ok (.putfield 10, 3) := by decide +kernel
theorem dX6_clear_6 : decode cX6_clear 6 = .ok (.aload_n 0, 1) := by decide +kernel
theorem dX6_clear_7 : decode cX6_clear 7 = .ok (.iconst 0, 1) := by decide +kernel
theorem dX6_clear_8 : decode cX6_clear 8 = .ok (.putfield 16, 3) := by decide +kernel
theorem dX6_clear_11 : decode cX6_clear 11 = .ok (.return_, 1) := by decide +kernel
theorem dX6_copy_0 : decode cX6_copy 0 = .ok (.aload_n 0, 1) := by decide +kernel
theorem dX6_copy_1 : decode cX6_copy 1 = .ok (.aload_n 1, 1) := by decide +kernel
theorem dX6_copy_2 : decode cX6_copy 2 = .ok (.getfield 10, 3) := by decide +kernel
theorem dX6_copy_5 : decode cX6_copy 5 = .ok (.putfield 10, 3) := by decide +kernel
theorem dX6_copy_8 : decode cX6_copy 8 = .ok (.aload_n 0, 1) := by decide +kernel
theorem dX6_copy_9 : decode cX6_copy 9 = .ok (.aload_n 1, 1) := by decide +kernel
theorem dX6_copy_10 : decode cX6_copy 10 = .ok (.getfield 16, 3) := by decide +kernel
theorem dX6_copy_13 : decode cX6_copy 13 = .ok (.putfield 16, 3) := by decide +kernel
theorem dX6_copy_16 : decode cX6_copy 16 = .ok (.return_, 1) := by decide +kernel
theorem dX8_begin_0 : decode cX8_begin 0 = .ok (.aload_n 0, 1) := by decide +kernel
theorem dX8_begin_1 : decode cX8_begin 1 = .ok (.iconst 0, 1) := by decide +kernel
theorem dX8_begin_2 : decode cX8_begin 2 = .ok (.putfield 27, 3) := by decide +kernel
theorem dX8_begin_5 : decode cX8_begin 5 = .ok (.iconst 0, 1) := by decide +kernel
theorem dX8_begin_6 : decode cX8_begin 6 = .ok (.istore_n 2, 1) := by decide +kernel
theorem dX8_begin_7 : decode cX8_begin 7 = .ok (.iload_n 2, 1) := by decide +kernel
theorem dX8_begin_8 : decode cX8_begin 8 = .ok (.aload_n 1, 1) := by decide +kernel
theorem dX8_begin_9 : decode cX8_begin 9 = .ok (.getfield 31, 3) := by decide +kernel
theorem dX8_begin_12 : decode cX8_begin 12 = .ok (.if_icmp .ge 66, 3) := by decide +kernel
theorem dX8_begin_15 : decode cX8_begin 15 = .ok (.aload_n 0, 1) := by decide +kernel
theorem dX8_begin_16 : decode cX8_begin 16 = .ok (.getfield 9, 3) := by decide +kernel
theorem dX8_begin_19 : decode cX8_begin 19 = .ok (.iload_n 2, 1) := by decide +kernel
theorem dX8_begin_20 : decode cX8_begin 20 = .ok (.aload_n 1, 1) := by decide +kernel
theorem dX8_begin_21 : decode cX8_begin 21 = .ok (.getfield 36, 3) := by decide +kernel
theorem dX8_begin_24 : decode cX8_begin 24 = .ok (.iload_n 2, 1) := by decide +kernel
theorem dX8_begin_25 : decode cX8_begin 25 = .ok (.iaload, 1) := by decide +kernel
theorem dX8_begin_26 : decode cX8_begin 26 = .ok (.iastore, 1) := by decide +kernel
theorem dX8_begin_27 : decode cX8_begin 27 = .ok (.aload_n 0, 1) := by decide +kernel
theorem dX8_begin_28 : decode cX8_begin 28 = .ok (.getfield 15, 3) := by decide +kernel
theorem dX8_begin_31 : decode cX8_begin 31 = .ok (.iload_n 2, 1) := by decide +kernel
theorem dX8_begin_32 : decode cX8_begin 32 = .ok (.aload_n 1, 1) := by decide +kernel
theorem dX8_begin_33 : decode cX8_begin 33 = .ok (.getfield 39, 3) := by decide +kernel
theorem dX8_begin_36 : decode cX8_begin 36 = .ok (.iload_n 2, 1) := by decide +kernel
theorem dX8_begin_37 : decode cX8_begin 37 = .ok (.iaload, 1) := by decide +kernel
theorem dX8_begin_38 : decode cX8_begin 38 = .ok (.iastore, 1) := by decide +kernel
theorem dX8_begin_39 : decode cX8_begin 39 = .ok (.aload_n 0, 1) := by decide +kernel
theorem dX8_begin_40 : decode cX8_begin 40 = .ok (.getfield 18, 3) := by decide +kernel
theorem dX8_begin_43 : decode cX8_begin 43 = .ok (.iload_n 2, 1) := by decide +kernel
theorem dX8_begin_44 : decode cX8_begin 44 = .ok (.iconst 0, 1) := by decide +kernel
theorem dX8_begin_45 : decode cX8_begin 45 = .ok (.iastore, 1) := by decide +kernel
theorem dX8_begin_46 : decode cX8_begin 46 = .ok (.aload_n 0, 1) := by decide +kernel
theorem dX8_begin_47 : decode cX8_begin 47 = .ok (.getfield 21, 3) := by decide +kernel
theorem dX8_begin_50 : decode cX8_begin 50 = .ok (.iload_n 2, 1) := by decide +kernel
theorem dX8_begin_51 : decode cX8_begin 51 = .ok (.aload_n 1, 1) := by decide +kernel
theorem dX8_begin_52 : decode cX8_begin 52 = .ok (.getfield 40, 3) := by decide +kernel
theorem dX8_begin_55 : decode cX8_begin 55 = .ok (.iload_n 2, 1) := by decide +kernel
theorem dX8_begin_56 : decode cX8_begin 56 = .ok (.iaload, 1) := by decide +kernel
theorem dX8_begin_57 : decode cX8_begin 57 = .ok (.iastore, 1) := by decide +kernel
theorem dX8_begin_58 : decode cX8_begin 58 = .ok (.aload_n 0, 1) := by decide +kernel
theorem dX8_begin_59 : decode cX8_begin 59 = .ok (.getfield 24, 3) := by decide +kernel
theorem dX8_begin_62 : decode cX8_begin 62 = .ok (.iload_n 2, 1) := by decide +kernel
theorem dX8_begin_63 : decode cX8_begin 63 = .ok (.iconst 1, 1) := by decide +kernel
theorem dX8_begin_64 : decode cX8_begin 64 = .ok (.aload_n 1, 1) := by decide +kernel
theorem dX8_begin_65 : decode cX8_begin 65 = .ok (.getfield 36, 3) := by decide +kernel
theorem dX8_begin_68 : decode cX8_begin 68 = .ok (.iload_n 2, 1) := by decide +kernel
theorem dX8_begin_69 : decode cX8_begin 69 = .ok (.iaload, 1) := by decide +kernel
theorem dX8_begin_70 : decode cX8_begin 70 = .ok (.ishl, 1) := by decide +kernel
theorem dX8_begin_71 : decode cX8_begin 71 = .ok (.iastore, 1) := by decide +kernel
theorem dX8_begin_72 : decode cX8_begin 72 = .ok (.iinc 2 1, 3) := by decide +kernel
theorem dX8_begin_75 : decode cX8_begin 75 = .ok (.goto (-68), 3) := by decide +kernel
theorem dX8_begin_78 : decode cX8_begin 78 = .ok (.return_, 1) := by decide +kernel
theorem dX8_copy_0 : decode cX8_copy 0 = .ok (.aload_n 0, 1) := by decide +kernel
theorem dX8_copy_1 : decode cX8_copy 1 = .ok (.aload_n 1, 1) := by decide +kernel
theorem dX8_copy_2 : decode cX8_copy 2 = .ok (.getfield 27, 3) := by decide +kernel
theorem dX8_copy_5 : decode cX8_copy 5 = .ok (.putfield 27, 3) := by decide +kernel
theorem dX8_copy_8 : decode cX8_copy 8 = .ok (.aload_n 1, 1) := by decide +kernel
theorem dX8_copy_9 : decode cX8_copy 9 = .ok (.getfield 9, 3) := by decide +kernel
theorem dX8_copy_12 : decode cX8_copy 12 = .ok (.iconst 0, 1) := by decide +kernel
theorem dX8_copy_13 : decode cX8_copy 13 = .ok (.aload_n 0, 1) := by decide +kernel
theorem dX8_copy_14 : decode cX8_copy 14 = .ok (.getfield 9, 3) := by decide +kernel
theorem dX8_copy_17 : decode cX8_copy 17 = .ok (.iconst 0, 1) := by decide +kernel
theorem dX8_copy_18 : decode cX8_copy 18 = .ok (.bipush 6, 2) := by decide +kernel
theorem dX8_copy_20 : decode cX8_copy 20 = .ok (.invokestatic 41, 3) := by decide +kernel
theorem dX8_copy_23 : decode cX8_copy 23 = .ok (.aload_n 1, 1) := by decide +kernel
theorem dX8_copy_24 : decode cX8_copy 24 = .ok (.getfield 15, 3) := by decide +kernel
theorem dX8_copy_27 : decode cX8_copy 27 = .ok (.iconst 0, 1) := by decide +kernel
theorem dX8_copy_28 : decode cX8_copy 28 = .ok (.aload_n 0, 1) := by decide +kernel
theorem dX8_copy_29 : decode cX8_copy 29 = .ok (.getfield 15, 3) := by decide +kernel
theorem dX8_copy_32 : decode cX8_copy 32 = .ok (.iconst 0, 1) := by decide +kernel
theorem dX8_copy_33 : decode cX8_copy 33 = .ok (.bipush 6, 2) := by decide +kernel
theorem dX8_copy_35 : decode cX8_copy 35 = .ok (.invokestatic 41, 3) := by decide +kernel
theorem dX8_copy_38 : decode cX8_copy 38 = .ok (.aload_n 1, 1) := by decide +kernel
theorem dX8_copy_39 : decode cX8_copy 39 = .ok (.getfield 18, 3) := by decide +kernel
theorem dX8_copy_42 : decode cX8_copy 42 = .ok (.iconst 0, 1) := by decide +kernel
theorem dX8_copy_43 : decode cX8_copy 43 = .ok (.aload_n 0, 1) := by decide +kernel
theorem dX8_copy_44 : decode cX8_copy 44 = .ok (.getfield 18, 3) := by decide +kernel
theorem dX8_copy_47 : decode cX8_copy 47 = .ok (.iconst 0, 1) := by decide +kernel
theorem dX8_copy_48 : decode cX8_copy 48 = .ok (.bipush 6, 2) := by decide +kernel
theorem dX8_copy_50 : decode cX8_copy 50 = .ok (.invokestatic 41, 3) := by decide +kernel
theorem dX8_copy_53 : decode cX8_copy 53 = .ok (.aload_n 1, 1) := by decide +kernel
theorem dX8_copy_54 : decode cX8_copy 54 = .ok (.getfield 21, 3) := by decide +kernel
theorem dX8_copy_57 : decode cX8_copy 57 = .ok (.iconst 0, 1) := by decide +kernel
theorem dX8_copy_58 : decode cX8_copy 58 = .ok (.aload_n 0, 1) := by decide +kernel
theorem dX8_copy_59 : decode cX8_copy 59 = .ok (.getfield 21, 3) := by decide +kernel
theorem dX8_copy_62 : decode cX8_copy 62 = .ok (.iconst 0, 1) := by decide +kernel
theorem dX8_copy_63 : decode cX8_copy 63 = .ok (.bipush 6, 2) := by decide +kernel
theorem dX8_copy_65 : decode cX8_copy 65 = .ok (.invokestatic 41, 3) := by decide +kernel
theorem dX8_copy_68 : decode cX8_copy 68 = .ok (.aload_n 1, 1) := by decide +kernel
theorem dX8_copy_69 : decode cX8_copy 69 = .ok (.getfield 24, 3) := by decide +kernel
theorem dX8_copy_72 : decode cX8_copy 72 = .ok (.iconst 0, 1) := by decide +kernel
theorem dX8_copy_73 : decode cX8_copy 73 = .ok (.aload_n 0, 1) := by decide +kernel
theorem dX8_copy_74 : decode cX8_copy 74 = .ok (.getfield 24, 3) := by decide +kernel
theorem dX8_copy_77 : decode cX8_copy 77 = .ok (.iconst 0, 1) := by decide +kernel
theorem dX8_copy_78 : decode cX8_copy 78 = .ok (.bipush 6, 2) := by decide +kernel
theorem dX8_copy_80 : decode cX8_copy 80 = .ok (.invokestatic 41, 3) := by decide +kernel
theorem dX8_copy_83 : decode cX8_copy 83 = .ok (.return_, 1) := by decide +kernel
theorem dX8_peopled_0 : decode cX8_peopled 0 = .ok (.iconst 0, 1) := by decide +kernel
theorem dX8_peopled_1 : decode cX8_peopled 1 = .ok (.istore_n 2, 1) := by decide +kernel
theorem dX8_peopled_2 : decode cX8_peopled 2 = .ok (.iconst 0, 1) := by decide +kernel
theorem dX8_peopled_3 : decode cX8_peopled 3 = .ok (.istore_n 3, 1) := by decide +kernel
theorem dX8_peopled_4 : decode cX8_peopled 4 = .ok (.iload_n 3, 1) := by decide +kernel
theorem dX8_peopled_5 : decode cX8_peopled 5 = .ok (.iload_n 1, 1) := by decide +kernel
theorem dX8_peopled_6 : decode cX8_peopled 6 = .ok (.if_icmp .ge 20, 3) := by decide +kernel
theorem dX8_peopled_9 : decode cX8_peopled 9 = .ok (.iload_n 2, 1) := by decide +kernel
theorem dX8_peopled_10 : decode cX8_peopled 10 = .ok (.iconst 1, 1) := by decide +kernel
theorem dX8_peopled_11 : decode cX8_peopled 11 = .ok (.aload_n 0, 1) := by decide +kernel
theorem dX8_peopled_12 : decode cX8_peopled 12 = .ok (.getfield 9, 3) := by decide +kernel
theorem dX8_peopled_15 : decode cX8_peopled 15 = .ok (.iload_n 3, 1) := by decide +kernel
theorem dX8_peopled_16 : decode cX8_peopled 16 = .ok (.iaload, 1) := by decide +kernel
theorem dX8_peopled_17 : decode cX8_peopled 17 = .ok (.ishl, 1) := by decide +kernel
theorem dX8_peopled_18 : decode cX8_peopled 18 = .ok (.ior, 1) := by decide +kernel
theorem dX8_peopled_19 : decode cX8_peopled 19 = .ok (.istore_n 2, 1) := by decide +kernel
theorem dX8_peopled_20 : decode cX8_peopled 20 = .ok (.iinc 3 1, 3) := by decide +kernel
theorem dX8_peopled_23 : decode cX8_peopled 23 = .ok (.goto (-19), 3) := by decide +kernel
theorem dX8_peopled_26 : decode cX8_peopled 26 = .ok (.iload_n 2, 1) := by decide +kernel
theorem dX8_peopled_27 : decode cX8_peopled 27 = .ok (.ireturn, 1) := by decide +kernel
theorem dX9_put_0 : decode cX9_put 0 = .ok (.bipush 56, 2) := by decide +kernel
theorem dX9_put_2 : decode cX9_put 2 = .ok (.istore_n 3, 1) := by decide +kernel
theorem dX9_put_3 : decode cX9_put 3 = .ok (.iload_n 3, 1) := by decide +kernel
theorem dX9_put_4 : decode cX9_put 4 = .ok (.ifCond .lt 84, 3) := by decide +kernel
theorem dX9_put_7 : decode cX9_put 7 = .ok (.lload_n 1, 1) := by decide +kernel
theorem dX9_put_8 : decode cX9_put 8 = .ok (.iload_n 3, 1) := by decide +kernel
theorem dX9_put_9 : decode cX9_put 9 = .ok (.lushr, 1) := by decide +kernel
theorem dX9_put_10 : decode cX9_put 10 = .ok (.ldc2_w 44, 3) := by decide +kernel
theorem dX9_put_13 : decode cX9_put 13 = .ok (.land, 1) := by decide +kernel
theorem dX9_put_14 : decode cX9_put 14 = .ok (.l2i, 1) := by decide +kernel
theorem dX9_put_15 : decode cX9_put 15 = .ok (.istore 4, 2) := by decide +kernel
theorem dX9_put_17 : decode cX9_put 17 = .ok (.iload 4, 2) := by decide +kernel
theorem dX9_put_19 : decode cX9_put 19 = .ok (.bipush 10, 2) := by decide +kernel
theorem dX9_put_21 : decode cX9_put 21 = .ok (.if_icmp .eq 17, 3) := by decide +kernel
theorem dX9_put_24 : decode cX9_put 24 = .ok (.iload 4, 2) := by decide +kernel
theorem dX9_put_26 : decode cX9_put 26 = .ok (.bipush 32, 2) := by decide +kernel
theorem dX9_put_28 : decode cX9_put 28 = .ok (.if_icmp .lt 14, 3) := by decide +kernel
theorem dX9_put_31 : decode cX9_put 31 = .ok (.iload 4, 2) := by decide +kernel
theorem dX9_put_33 : decode cX9_put 33 = .ok (.bipush 126, 2) := by decide +kernel
theorem dX9_put_35 : decode cX9_put 35 = .ok (.if_icmp .gt 7, 3) := by decide +kernel
theorem dX9_put_38 : decode cX9_put 38 = .ok (.iconst 1, 1) := by decide +kernel
theorem dX9_put_39 : decode cX9_put 39 = .ok (.goto 4, 3) := by decide +kernel
theorem dX9_put_42 : decode cX9_put 42 = .ok (.iconst 0, 1) := by decide +kernel
theorem dX9_put_43 : decode cX9_put 43 = .ok (.istore 5, 2) := by decide +kernel
theorem dX9_put_45 : decode cX9_put 45 = .ok (.iload 5, 2) := by decide +kernel
theorem dX9_put_47 : decode cX9_put 47 = .ok (.ifCond .eq 35, 3) := by decide +kernel
theorem dX9_put_50 : decode cX9_put 50 = .ok (.aload_n 0, 1) := by decide +kernel
theorem dX9_put_51 : decode cX9_put 51 = .ok (.getfield 15, 3) := by decide +kernel
theorem dX9_put_54 : decode cX9_put 54 = .ok (.sipush 1000, 3) := by decide +kernel
theorem dX9_put_57 : decode cX9_put 57 = .ok (.if_icmp .ge 25, 3) := by decide +kernel
theorem dX9_put_60 : decode cX9_put 60 = .ok (.aload_n 0, 1) := by decide +kernel
theorem dX9_put_61 : decode cX9_put 61 = .ok (.getfield 9, 3) := by decide +kernel
theorem dX9_put_64 : decode cX9_put 64 = .ok (.aload_n 0, 1) := by decide +kernel
theorem dX9_put_65 : decode cX9_put 65 = .ok (.getfield 15, 3) := by decide +kernel
theorem dX9_put_68 : decode cX9_put 68 = .ok (.iload 4, 2) := by decide +kernel
theorem dX9_put_70 : decode cX9_put 70 = .ok (.i2c, 1) := by decide +kernel
theorem dX9_put_71 : decode cX9_put 71 = .ok (.castore, 1) := by decide +kernel
theorem dX9_put_72 : decode cX9_put 72 = .ok (.aload_n 0, 1) := by decide +kernel
theorem dX9_put_73 : decode cX9_put 73 = .ok (.dup, 1) := by decide +kernel
theorem dX9_put_74 : decode cX9_put 74 = .ok (.getfield 15, 3) := by decide +kernel
theorem dX9_put_77 : decode cX9_put 77 = .ok (.iconst 1, 1) := by decide +kernel
theorem dX9_put_78 : decode cX9_put 78 = .ok (.iadd, 1) := by decide +kernel
theorem dX9_put_79 : decode cX9_put 79 = .ok (.putfield 15, 3) := by decide +kernel
theorem dX9_put_82 : decode cX9_put 82 = .ok (.iinc 3 (-8), 3) := by decide +kernel
theorem dX9_put_85 : decode cX9_put 85 = .ok (.goto (-82), 3) := by decide +kernel
theorem dX9_put_88 : decode cX9_put 88 = .ok (.return_, 1) := by decide +kernel
set_option maxRecDepth 20000 in
theorem ggX9_begin_X9_step : GoodIn wsX9_begin wsX9_step := goodIn_r _ [7, 1, 8, 9, 10, 11, 12, 13, 14, 15, 16, 17, 6, 18, 19, 20, 21, 22, 23, 24, 25, 26, 27, 28, 29, 30, 31, 32, 33, 34, 35, 36, 37, 38, 39, 40, 41, 42, 43, 44, 45, 46, 47, 48, 49, 50, 51, 52, 53, 54, 55, 56, 57, 58, 59, 60, 61, 62, 63, 64, 65, 66, 67, 68, 69, 70, 71, 72, 73, 74, 75, 76, 77, 78, 79, 80, 81, 82, 83, 84, 85, 86, 87, 88, 89, 90, 91, 92, 93, 94, 95, 96, 97] (by decide +kernel) (by decide +kernel)
set_option maxRecDepth 20000 in
theorem gX9_begin_X9_step : GoodIn wsX9_begin (wsV RX9 46 RX9 yX9_step wsX9_step) := goodIn_app (goodIn_of _ (by decide +kernel)) ggX9_begin_X9_step
theorem dX9_begin_0 : decode cX9_begin 0 = .ok (.aload_n 0, 1) := by decide +kernel
theorem dX9_begin_1 : decode cX9_begin 1 = .ok (.iconst 0, 1) := by decide +kernel
theorem dX9_begin_2 : decode cX9_begin 2 = .ok (.putfield 22, 3) := by decide +kernel
theorem dX9_begin_5 : decode cX9_begin 5 = .ok (.aload_n 0, 1) := by decide +kernel
theorem dX9_begin_6 : decode cX9_begin 6 = .ok (.iconst 0, 1) := by decide +kernel
theorem dX9_begin_7 : decode cX9_begin 7 = .ok (.putfield 41, 3) := by decide +kernel
theorem dX9_begin_10 : decode cX9_begin 10 = .ok (.aload_n 0, 1) := by decide +kernel
theorem dX9_begin_11 : decode cX9_begin 11 = .ok (.invokevirtual 46, 3) := by decide +kernel
theorem dX9_begin_14 : decode cX9_begin 14 = .ok (.return_, 1) := by decide +kernel
set_option maxRecDepth 20000 in
theorem ggX9_step_X9_isLetter : GoodIn wsX9_step wsX9_isLetter := goodIn_r _ [13] (by decide +kernel) (by decide +kernel)
set_option maxRecDepth 20000 in
theorem gX9_step_X9_isLetter : GoodIn wsX9_step (va_wsS RX9 49 yX9_isLetter wsX9_isLetter) := goodIn_app (goodIn_of _ (by decide +kernel)) ggX9_step_X9_isLetter
set_option maxRecDepth 20000 in
theorem ggX9_step_X9_stepOverWord : GoodIn wsX9_step wsX9_stepOverWord := goodIn_r _ [17, 18, 1, 2, 3, 10, 11, 12, 13, 85, 86, 87, 88, 89, 90, 91, 92] (by decide +kernel) (by decide +kernel)
set_option maxRecDepth 20000 in
theorem gX9_step_X9_stepOverWord : GoodIn wsX9_step (wsV RX9 53 RX9 yX9_stepOverWord wsX9_stepOverWord) := goodIn_app (goodIn_of _ (by decide +kernel)) ggX9_step_X9_stepOverWord
set_option maxRecDepth 20000 in
theorem ggX9_step_X9_sortAs : GoodIn wsX9_step wsX9_sortAs := goodIn_r _ [22, 23, 24, 25, 26, 12, 27, 1, 4, 2, 3, 28, 29, 30, 31, 32, 33, 34, 35, 36, 37, 38, 39, 40, 41, 42, 43, 44, 45, 46, 47, 48, 49, 50, 51, 52, 53, 54, 55, 56, 57, 58, 59, 60, 61, 62, 63, 64, 65, 66, 67, 68, 69, 70, 71, 72, 73, 74, 75, 76, 85, 86, 87, 88, 89, 90, 91, 92] (by decide +kernel) (by decide +kernel)
set_option maxRecDepth 20000 in
theorem gX9_step_X9_sortAs : GoodIn wsX9_step (wsV RX9 62 RX9 yX9_sortAs wsX9_sortAs) := goodIn_app (goodIn_of _ (by decide +kernel)) ggX9_step_X9_sortAs
set_option maxRecDepth 20000 in
theorem ggX9_step_X9_isDigit : GoodIn wsX9_step wsX9_isDigit := goodIn_r _ [79] (by decide +kernel) (by decide +kernel)
set_option maxRecDepth 20000 in
theorem gX9_step_X9_isDigit : GoodIn wsX9_step (va_wsS RX9 66 yX9_isDigit wsX9_isDigit) := goodIn_app (goodIn_of _ (by decide +kernel)) ggX9_step_X9_isDigit
set_option maxRecDepth 20000 in
theorem ggX9_step_X9_stepOverNumber : GoodIn wsX9_step wsX9_stepOverNumber := goodIn_r _ [83, 84, 1, 2, 3, 77, 78, 12, 79, 85, 86, 87, 88, 89, 90, 91, 92] (by decide +kernel) (by decide +kernel)
set_option maxRecDepth 20000 in
theorem gX9_step_X9_stepOverNumber : GoodIn wsX9_step (wsV RX9 69 RX9 yX9_stepOverNumber wsX9_stepOverNumber) := goodIn_app (goodIn_of _ (by decide +kernel)) ggX9_step_X9_stepOverNumber
theorem dX9_step_0 : decode cX9_step 0 = .ok (.aload_n 0, 1) := by decide +kernel
theorem dX9_step_1 : decode cX9_step 1 = .ok (.getfield 22, 3) := by decide +kernel
theorem dX9_step_4 : decode cX9_step 4 = .ok (.aload_n 0, 1) := by decide +kernel
theorem dX9_step_5 : decode cX9_step 5 = .ok (.getfield 15, 3) := by decide +kernel
theorem dX9_step_8 : decode cX9_step 8 = .ok (.if_icmp .ge 44, 3) := by decide +kernel
theorem dX9_step_11 : decode cX9_step 11 = .ok (.aload_n 0, 1) := by decide +kernel
theorem dX9_step_12 : decode cX9_step 12 = .ok (.getfield 9, 3) := by decide +kernel
theorem dX9_step_15 : decode cX9_step 15 = .ok (.aload_n 0, 1) := by decide +kernel
theorem dX9_step_16 : decode cX9_step 16 = .ok (.getfield 22, 3) := by decide +kernel
theorem dX9_step_19 : decode cX9_step 19 = .ok (.caload, 1) := by decide +kernel
theorem dX9_step_20 : decode cX9_step 20 = .ok (.bipush 32, 2) := by decide +kernel
theorem dX9_step_22 : decode cX9_step 22 = .ok (.if_icmp .eq 17, 3) := by decide +kernel
theorem dX9_step_25 : decode cX9_step 25 = .ok (.aload_n 0, 1) := by decide +kernel
theorem dX9_step_26 : decode cX9_step 26 = .ok (.getfield 9, 3) := by decide +kernel
theorem dX9_step_29 : decode cX9_step 29 = .ok (.aload_n 0, 1) := by decide +kernel
theorem dX9_step_30 : decode cX9_step 30 = .ok (.getfield 22, 3) := by decide +kernel
theorem dX9_step_33 : decode cX9_step 33 = .ok (.caload, 1) := by decide +kernel
theorem dX9_step_34 : decode cX9_step 34 = .ok (.bipush 10, 2) := by decide +kernel
theorem dX9_step_36 : decode cX9_step 36 = .ok (.if_icmp .ne 16, 3) := by decide +kernel
theorem dX9_step_39 : decode cX9_step 39 = .ok (.aload_n 0, 1) := by decide +kernel
theorem dX9_step_40 : decode cX9_step 40 = .ok (.dup, 1) := by decide +kernel
theorem dX9_step_41 : decode cX9_step 41 = .ok (.getfield 22, 3) := by decide +kernel
theorem dX9_step_44 : decode cX9_step 44 = .ok (.iconst 1, 1) := by decide +kernel
theorem dX9_step_45 : decode cX9_step 45 = .ok (.iadd, 1) := by decide +kernel
theorem dX9_step_46 : decode cX9_step 46 = .ok (.putfield 22, 3) := by decide +kernel
theorem dX9_step_49 : decode cX9_step 49 = .ok (.goto (-49), 3) := by decide +kernel
theorem dX9_step_52 : decode cX9_step 52 = .ok (.aload_n 0, 1) := by decide +kernel
theorem dX9_step_53 : decode cX9_step 53 = .ok (.aload_n 0, 1) := by decide +kernel
theorem dX9_step_54 : decode cX9_step 54 = .ok (.getfield 22, 3) := by decide +kernel
theorem dX9_step_57 : decode cX9_step 57 = .ok (.putfield 19, 3) := by decide +kernel
theorem dX9_step_60 : decode cX9_step 60 = .ok (.aload_n 0, 1) := by decide +kernel
theorem dX9_step_61 : decode cX9_step 61 = .ok (.getfield 22, 3) := by decide +kernel
theorem dX9_step_64 : decode cX9_step 64 = .ok (.aload_n 0, 1) := by decide +kernel
theorem dX9_step_65 : decode cX9_step 65 = .ok (.getfield 15, 3) := by decide +kernel
theorem dX9_step_68 : decode cX9_step 68 = .ok (.if_icmp .lt 13, 3) := by decide +kernel
theorem dX9_step_71 : decode cX9_step 71 = .ok (.aload_n 0, 1) := by decide +kernel
theorem dX9_step_72 : decode cX9_step 72 = .ok (.getstatic 25, 3) := by decide +kernel
theorem dX9_step_75 : decode cX9_step 75 = .ok (.putfield 31, 3) := by decide +kernel
theorem dX9_step_78 : decode cX9_step 78 = .ok (.goto 125, 3) := by decide +kernel
theorem dX9_step_81 : decode cX9_step 81 = .ok (.aload_n 0, 1) := by decide +kernel
theorem dX9_step_82 : decode cX9_step 82 = .ok (.getfield 9, 3) := by decide +kernel
theorem dX9_step_85 : decode cX9_step 85 = .ok (.aload_n 0, 1) := by decide +kernel
theorem dX9_step_86 : decode cX9_step 86 = .ok (.getfield 22, 3) := by decide +kernel
theorem dX9_step_89 : decode cX9_step 89 = .ok (.caload, 1) := by decide +kernel
theorem dX9_step_90 : decode cX9_step 90 = .ok (.invokestatic 49, 3) := by decide +kernel
theorem dX9_step_93 : decode cX9_step 93 = .ok (.ifCond .eq 41, 3) := by decide +kernel
theorem dX9_step_96 : decode cX9_step 96 = .ok (.aload_n 0, 1) := by decide +kernel
theorem dX9_step_97 : decode cX9_step 97 = .ok (.invokevirtual 53, 3) := by decide +kernel
theorem dX9_step_100 : decode cX9_step 100 = .ok (.aload_n 0, 1) := by decide +kernel
theorem dX9_step_101 : decode cX9_step 101 = .ok (.aload_n 0, 1) := by decide +kernel
theorem dX9_step_102 : decode cX9_step 102 = .ok (.getfield 22, 3) := by decide +kernel
theorem dX9_step_105 : decode cX9_step 105 = .ok (.aload_n 0, 1) := by decide +kernel
theorem dX9_step_106 : decode cX9_step 106 = .ok (.getfield 19, 3) := by decide +kernel
theorem dX9_step_109 : decode cX9_step 109 = .ok (.isub, 1) := by decide +kernel
theorem dX9_step_110 : decode cX9_step 110 = .ok (.bipush 8, 2) := by decide +kernel
theorem dX9_step_112 : decode cX9_step 112 = .ok (.if_icmp .le 9, 3) := by decide +kernel
theorem dX9_step_115 : decode cX9_step 115 = .ok (.getstatic 56, 3) := by decide +kernel
theorem dX9_step_118 : decode cX9_step 118 = .ok (.goto 10, 3) := by decide +kernel
theorem dX9_step_121 : decode cX9_step 121 = .ok (.aload_n 0, 1) := by decide +kernel
theorem dX9_step_122 : decode cX9_step 122 = .ok (.getstatic 59, 3) := by decide +kernel
theorem dX9_step_125 : decode cX9_step 125 = .ok (.invokevirtual 62, 3) := by decide +kernel
theorem dX9_step_128 : decode cX9_step 128 = .ok (.putfield 31, 3) := by decide +kernel
theorem dX9_step_131 : decode cX9_step 131 = .ok (.goto 72, 3) := by decide +kernel
theorem dX9_step_134 : decode cX9_step 134 = .ok (.aload_n 0, 1) := by decide +kernel
theorem dX9_step_135 : decode cX9_step 135 = .ok (.getfield 9, 3) := by decide +kernel
theorem dX9_step_138 : decode cX9_step 138 = .ok (.aload_n 0, 1) := by decide +kernel
theorem dX9_step_139 : decode cX9_step 139 = .ok (.getfield 22, 3) := by decide +kernel
theorem dX9_step_142 : decode cX9_step 142 = .ok (.caload, 1) := by decide +kernel
theorem dX9_step_143 : decode cX9_step 143 = .ok (.invokestatic 66, 3) := by decide +kernel
theorem dX9_step_146 : decode cX9_step 146 = .ok (.ifCond .eq 36, 3) := by decide +kernel
theorem dX9_step_149 : decode cX9_step 149 = .ok (.aload_n 0, 1) := by decide +kernel
theorem dX9_step_150 : decode cX9_step 150 = .ok (.invokevirtual 69, 3) := by decide +kernel
theorem dX9_step_153 : decode cX9_step 153 = .ok (.aload_n 0, 1) := by decide +kernel
theorem dX9_step_154 : decode cX9_step 154 = .ok (.aload_n 0, 1) := by decide +kernel
theorem dX9_step_155 : decode cX9_step 155 = .ok (.getfield 22, 3) := by decide +kernel
theorem dX9_step_158 : decode cX9_step 158 = .ok (.aload_n 0, 1) := by decide +kernel
theorem dX9_step_159 : decode cX9_step 159 = .ok (.getfield 19, 3) := by decide +kernel
theorem dX9_step_162 : decode cX9_step 162 = .ok (.isub, 1) := by decide +kernel
theorem dX9_step_163 : decode cX9_step 163 = .ok (.iconst 4, 1) := by decide +kernel
theorem dX9_step_164 : decode cX9_step 164 = .ok (.if_icmp .le 9, 3) := by decide +kernel
theorem dX9_step_167 : decode cX9_step 167 = .ok (.getstatic 56, 3) := by decide +kernel
theorem dX9_step_170 : decode cX9_step 170 = .ok (.goto 6, 3) := by decide +kernel
theorem dX9_step_173 : decode cX9_step 173 = .ok (.getstatic 72, 3) := by decide +kernel
theorem dX9_step_176 : decode cX9_step 176 = .ok (.putfield 31, 3) := by decide +kernel
theorem dX9_step_179 : decode cX9_step 179 = .ok (.goto 24, 3) := by decide +kernel
theorem dX9_step_182 : decode cX9_step 182 = .ok (.aload_n 0, 1) := by decide +kernel
theorem dX9_step_183 : decode cX9_step 183 = .ok (.dup, 1) := by decide +kernel
theorem dX9_step_184 : decode cX9_step 184 = .ok (.getfield 22, 3) := by decide +kernel
theorem dX9_step_187 : decode cX9_step 187 = .ok (.iconst 1, 1) := by decide +kernel
theorem dX9_step_188 : decode cX9_step 188 = .ok (.iadd, 1) := by decide +kernel
theorem dX9_step_189 : decode cX9_step 189 = .ok (.putfield 22, 3) := by decide +kernel
theorem dX9_step_192 : decode cX9_step 192 = .ok (.aload_n 0, 1) := by decide +kernel
theorem dX9_step_193 : decode cX9_step 193 = .ok (.aload_n 0, 1) := by decide +kernel
theorem dX9_step_194 : decode cX9_step 194 = .ok (.getstatic 56, 3) := by decide +kernel
theorem dX9_step_197 : decode cX9_step 197 = .ok (.invokevirtual 62, 3) := by decide +kernel
theorem dX9_step_200 : decode cX9_step 200 = .ok (.putfield 31, 3) := by decide +kernel
theorem dX9_step_203 : decode cX9_step 203 = .ok (.return_, 1) := by decide +kernel
set_option maxRecDepth 20000 in
theorem ggX11_feed_X9_put : GoodIn wsX11_feed wsX9_put := goodIn_r _ [7, 8, 9, 10, 26, 27, 28, 29, 30, 31, 32, 33] (by decide +kernel) (by decide +kernel)
set_option maxRecDepth 20000 in
theorem gX11_feed_X9_put : GoodIn wsX11_feed (wsV RX11 96 RX9 yX9_put wsX9_put) := goodIn_app (goodIn_of _ (by decide +kernel)) ggX11_feed_X9_put
theorem dX11_feed_0 : decode cX11_feed 0 = .ok (.aload_n 0, 1) := by decide +kernel
theorem dX11_feed_1 : decode cX11_feed 1 = .ok (.getfield 10, 3) := by decide +kernel
theorem dX11_feed_4 : decode cX11_feed 4 = .ok (.lload_n 1, 1) := by decide +kernel
theorem dX11_feed_5 : decode cX11_feed 5 = .ok (.invokevirtual 96, 3) := by decide +kernel
theorem dX11_feed_8 : decode cX11_feed 8 = .ok (.aload_n 0, 1) := by decide +kernel
theorem dX11_feed_9 : decode cX11_feed 9 = .ok (.getfield 10, 3) := by decide +kernel
theorem dX11_feed_12 : decode cX11_feed 12 = .ok (.lload_n 3, 1) := by decide +kernel
theorem dX11_feed_13 : decode cX11_feed 13 = .ok (.invokevirtual 96, 3) := by decide +kernel
theorem dX11_feed_16 : decode cX11_feed 16 = .ok (.aload_n 0, 1) := by decide +kernel
theorem dX11_feed_17 : decode cX11_feed 17 = .ok (.getfield 10, 3) := by decide +kernel
theorem dX11_feed_20 : decode cX11_feed 20 = .ok (.lload 5, 2) := by decide +kernel
theorem dX11_feed_22 : decode cX11_feed 22 = .ok (.invokevirtual 96, 3) := by decide +kernel
theorem dX11_feed_25 : decode cX11_feed 25 = .ok (.aload_n 0, 1) := by decide +kernel
theorem dX11_feed_26 : decode cX11_feed 26 = .ok (.getfield 10, 3) := by decide +kernel
theorem dX11_feed_29 : decode cX11_feed 29 = .ok (.getfield 100, 3) := by decide +kernel
theorem dX11_feed_32 : decode cX11_feed 32 = .ok (.ireturn, 1) := by decide +kernel
set_option maxRecDepth 20000 in
theorem ggX11_land_X3_read : GoodIn wsX11_land wsX3_read := goodIn_r _ [17, 18, 19, 20, 21, 22, 23, 24, 25, 26, 27, 28, 29, 30, 31, 32, 33, 34, 35, 36, 37, 38, 39, 40, 41, 42, 43, 44, 45, 46, 47, 48, 49, 50, 51, 52, 53, 54, 55, 56, 57, 58, 59, 60, 61, 62, 63, 64, 65, 66, 67, 68, 69, 70, 71, 72, 73, 74, 75, 76, 77, 78, 79, 80, 81, 82, 83, 84, 85, 86, 87, 88, 89, 90, 91, 92, 93, 94, 95, 96, 97, 98, 99, 100, 101, 102, 103, 104, 105, 106, 107, 108, 109, 110, 111, 112, 113, 114, 115, 116, 117, 118, 119, 120, 121, 122, 123, 124, 125, 126, 127, 128, 129, 130, 131, 132, 133, 134, 135, 136, 137, 138, 139, 140, 141, 142, 143, 144, 145, 16, 146, 147, 148, 149, 150, 151, 152, 153, 154, 155, 156, 157, 158, 159, 160, 161, 162, 163, 164, 165, 166, 167, 168, 169, 170, 171, 172, 173, 174, 175, 176, 177, 178, 179, 180, 181, 182, 183, 184, 185, 186, 187, 188, 189, 190, 191, 192, 193, 194, 195, 196, 197, 198, 199, 200, 201, 202, 203, 204, 205, 206, 207, 208, 209, 210, 211, 212, 213, 214, 215, 216, 217, 218, 219, 220, 221, 222, 223, 224, 225, 226, 227, 228, 229, 230, 231, 232, 233, 234, 235, 236, 237, 238, 239, 240, 241, 242, 243, 244, 245, 246, 247, 248, 249, 250, 251, 252, 253, 254, 255, 256, 257, 258, 259, 260, 261, 262, 263, 264, 265, 266, 267, 268, 269, 270, 271, 272, 273, 274, 275, 276, 277, 278, 279, 280, 281, 282, 283, 362, 363, 364, 346, 347, 348, 349, 350, 351, 352, 353, 365, 366, 367, 368, 369, 370, 371, 372, 373, 374, 375, 376, 377, 378, 379, 380] (by decide +kernel) (by decide +kernel)
set_option maxRecDepth 20000 in
theorem gX11_land_X3_read : GoodIn wsX11_land (wsV RX11 103 RX3 yX3_read wsX3_read) := goodIn_app (goodIn_of _ (by decide +kernel)) ggX11_land_X3_read
set_option maxRecDepth 20000 in
theorem ggX11_land_X2_copy : GoodIn wsX11_land wsX2_copy := goodIn_r _ [287, 29, 30, 31, 32, 288, 289, 290, 291, 292, 33, 177, 293, 294, 295, 296, 182, 34, 297, 298, 299, 42, 300, 44, 49, 301, 365, 366, 367, 368, 369, 370, 371, 372, 373, 374, 375, 376, 377, 378, 379, 380] (by decide +kernel) (by decide +kernel)
set_option maxRecDepth 20000 in
theorem gX11_land_X2_copy : GoodIn wsX11_land (wsV RX11 110 RX2 yX2_copy wsX2_copy) := goodIn_app (goodIn_of _ (by decide +kernel)) ggX11_land_X2_copy
set_option maxRecDepth 20000 in
theorem ggX11_land_X8_begin : GoodIn wsX11_land wsX8_begin := goodIn_r _ [306, 307, 308, 309, 310, 311, 312, 313, 314, 315, 316, 381, 382, 383, 384, 385, 386, 365, 366, 367, 368, 369, 370, 371, 372, 373, 374, 375, 376, 377] (by decide +kernel) (by decide +kernel)
set_option maxRecDepth 20000 in
theorem gX11_land_X8_begin : GoodIn wsX11_land (wsV RX11 113 RX8 yX8_begin wsX8_begin) := goodIn_app (goodIn_of _ (by decide +kernel)) ggX11_land_X8_begin
set_option maxRecDepth 20000 in
theorem ggX11_land_X6_clear : GoodIn wsX11_land wsX6_clear := goodIn_r _ [321, 322, 323, 324, 387, 388] (by decide +kernel) (by decide +kernel)
set_option maxRecDepth 20000 in
theorem gX11_land_X6_clear : GoodIn wsX11_land (wsV RX11 119 RX6 yX6_clear wsX6_clear) := goodIn_app (goodIn_of _ (by decide +kernel)) ggX11_land_X6_clear
set_option maxRecDepth 20000 in
theorem ggX11_land_X11_forgetPast : GoodIn wsX11_land wsX11_forgetPast := goodIn_r _ [328, 329, 330, 331, 332, 333, 334, 335, 336, 337, 338, 339, 340, 341, 342, 343, 344, 345] (by decide +kernel) (by decide +kernel)
set_option maxRecDepth 20000 in
theorem gX11_land_X11_forgetPast : GoodIn wsX11_land (wsV RX11 122 RX11 yX11_forgetPast wsX11_forgetPast) := goodIn_app (goodIn_of _ (by decide +kernel)) ggX11_land_X11_forgetPast
theorem dX11_land_0 : decode cX11_land 0 = .ok (.aload_n 0, 1) := by decide +kernel
theorem dX11_land_1 : decode cX11_land 1 = .ok (.getfield 29, 3) := by decide +kernel
theorem dX11_land_4 : decode cX11_land 4 = .ok (.aload_n 0, 1) := by decide +kernel
theorem dX11_land_5 : decode cX11_land 5 = .ok (.getfield 10, 3) := by decide +kernel
theorem dX11_land_8 : decode cX11_land 8 = .ok (.aload_n 0, 1) := by decide +kernel
theorem dX11_land_9 : decode cX11_land 9 = .ok (.getfield 23, 3) := by decide +kernel
theorem dX11_land_12 : decode cX11_land 12 = .ok (.invokevirtual 103, 3) := by decide +kernel
theorem dX11_land_15 : decode cX11_land 15 = .ok (.istore_n 1, 1) := by decide +kernel
theorem dX11_land_16 : decode cX11_land 16 = .ok (.aload_n 0, 1) := by decide +kernel
theorem dX11_land_17 : decode cX11_land 17 = .ok (.getfield 10, 3) := by decide +kernel
theorem dX11_land_20 : decode cX11_land 20 = .ok (.iconst 0, 1) := by decide +kernel
theorem dX11_land_21 : decode cX11_land 21 = .ok (.putfield 100, 3) := by decide +kernel
theorem dX11_land_24 : decode cX11_land 24 = .ok (.iload_n 1, 1) := by decide +kernel
theorem dX11_land_25 : decode cX11_land 25 = .ok (.ifCond .ne 11, 3) := by decide +kernel
theorem dX11_land_28 : decode cX11_land 28 = .ok (.aload_n 0, 1) := by decide +kernel
theorem dX11_land_29 : decode cX11_land 29 = .ok (.getfield 10, 3) := by decide +kernel
theorem dX11_land_32 : decode cX11_land 32 = .ok (.getfield 107, 3) := by decide +kernel
theorem dX11_land_35 : decode cX11_land 35 = .ok (.ireturn, 1) := by decide +kernel
theorem dX11_land_36 : decode cX11_land 36 = .ok (.aload_n 0, 1) := by decide +kernel
theorem dX11_land_37 : decode cX11_land 37 = .ok (.getfield 19, 3) := by decide +kernel
theorem dX11_land_40 : decode cX11_land 40 = .ok (.aload_n 0, 1) := by decide +kernel
theorem dX11_land_41 : decode cX11_land 41 = .ok (.getfield 23, 3) := by decide +kernel
theorem dX11_land_44 : decode cX11_land 44 = .ok (.invokevirtual 110, 3) := by decide +kernel
theorem dX11_land_47 : decode cX11_land 47 = .ok (.aload_n 0, 1) := by decide +kernel
theorem dX11_land_48 : decode cX11_land 48 = .ok (.getfield 64, 3) := by decide +kernel
theorem dX11_land_51 : decode cX11_land 51 = .ok (.aload_n 0, 1) := by decide +kernel
theorem dX11_land_52 : decode cX11_land 52 = .ok (.getfield 19, 3) := by decide +kernel
theorem dX11_land_55 : decode cX11_land 55 = .ok (.invokevirtual 113, 3) := by decide +kernel
theorem dX11_land_58 : decode cX11_land 58 = .ok (.aload_n 0, 1) := by decide +kernel
theorem dX11_land_59 : decode cX11_land 59 = .ok (.getfield 36, 3) := by decide +kernel
theorem dX11_land_62 : decode cX11_land 62 = .ok (.iconst 0, 1) := by decide +kernel
theorem dX11_land_63 : decode cX11_land 63 = .ok (.putfield 116, 3) := by decide +kernel
theorem dX11_land_66 : decode cX11_land 66 = .ok (.aload_n 0, 1) := by decide +kernel
theorem dX11_land_67 : decode cX11_land 67 = .ok (.getfield 74, 3) := by decide +kernel
theorem dX11_land_70 : decode cX11_land 70 = .ok (.invokevirtual 119, 3) := by decide +kernel
theorem dX11_land_73 : decode cX11_land 73 = .ok (.aload_n 0, 1) := by decide +kernel
theorem dX11_land_74 : decode cX11_land 74 = .ok (.invokevirtual 122, 3) := by decide +kernel
theorem dX11_land_77 : decode cX11_land 77 = .ok (.iconst 0, 1) := by decide +kernel
theorem dX11_land_78 : decode cX11_land 78 = .ok (.istore_n 2, 1) := by decide +kernel
theorem dX11_land_79 : decode cX11_land 79 = .ok (.iload_n 2, 1) := by decide +kernel
theorem dX11_land_80 : decode cX11_land 80 = .ok (.iconst 4, 1) := by decide +kernel
theorem dX11_land_81 : decode cX11_land 81 = .ok (.if_icmp .ge 19, 3) := by decide +kernel
theorem dX11_land_84 : decode cX11_land 84 = .ok (.aload_n 0, 1) := by decide +kernel
theorem dX11_land_85 : decode cX11_land 85 = .ok (.getfield 84, 3) := by decide +kernel
theorem dX11_land_88 : decode cX11_land 88 = .ok (.iload_n 2, 1) := by decide +kernel
theorem dX11_land_89 : decode cX11_land 89 = .ok (.aaload, 1) := by decide +kernel
theorem dX11_land_90 : decode cX11_land 90 = .ok (.iconst 0, 1) := by decide +kernel
theorem dX11_land_91 : decode cX11_land 91 = .ok (.putfield 125, 3) := by decide +kernel
theorem dX11_land_94 : decode cX11_land 94 = .ok (.iinc 2 1, 3) := by decide +kernel
theorem dX11_land_97 : decode cX11_land 97 = .ok (.goto (-18), 3) := by decide +kernel
theorem dX11_land_100 : decode cX11_land 100 = .ok (.iconst 0, 1) := by decide +kernel
theorem dX11_land_101 : decode cX11_land 101 = .ok (.ireturn, 1) := by decide +kernel
set_option maxRecDepth 20000 in
theorem ggX11_journey_X1_read : GoodIn wsX11_journey wsX1_read := goodIn_r _ [11, 12, 13, 14, 15, 16, 17, 18, 19, 20, 21, 22, 23, 24, 25, 26, 27, 28, 29, 30, 31, 32, 33, 34, 35, 36, 37, 38, 39, 40, 41, 42, 43, 44, 45, 46, 47, 48, 49, 50, 51, 52, 53, 54, 55, 56, 57, 58, 59, 60, 61, 62, 63, 64, 65, 66, 67, 68, 69, 70, 71, 72, 73, 74, 75, 76, 77, 78, 79, 80, 81, 82, 83, 84, 85, 86, 87, 88, 89, 90, 91, 92, 93, 94, 95, 96, 97, 98, 99, 100, 101, 102, 103, 104, 105, 106, 107, 108, 109, 110, 111, 10, 112, 113, 114, 115, 116, 117, 118, 119, 120, 121, 122, 123, 124, 125, 126, 127, 128, 129, 130, 131, 132, 133, 134, 135, 136, 137, 138, 139, 140, 141, 142, 143, 144, 145, 146, 147, 148, 149, 150, 151, 152, 153, 154, 155, 156, 157, 158, 159, 160, 161, 193, 194, 195, 196, 185, 186, 187, 188, 189, 190, 191, 192, 197, 198, 199, 200, 201, 202, 203, 204, 205, 206, 207, 208, 209] (by decide +kernel) (by decide +kernel)
set_option maxRecDepth 20000 in
theorem gX11_journey_X1_read : GoodIn wsX11_journey (wsV RX11 129 RX1 yX1_read wsX1_read) := goodIn_app (goodIn_of _ (by decide +kernel)) ggX11_journey_X1_read
set_option maxRecDepth 20000 in
theorem ggX11_journey_X1_copy : GoodIn wsX11_journey wsX1_copy := goodIn_r _ [165, 12, 113, 166, 167, 168, 169, 114, 115, 193, 194, 195, 196] (by decide +kernel) (by decide +kernel)
set_option maxRecDepth 20000 in
theorem gX11_journey_X1_copy : GoodIn wsX11_journey (wsV RX11 130 RX1 yX1_copy wsX1_copy) := goodIn_app (goodIn_of _ (by decide +kernel)) ggX11_journey_X1_copy
theorem dX11_journey_0 : decode cX11_journey 0 = .ok (.aload_n 0, 1) := by decide +kernel
theorem dX11_journey_1 : decode cX11_journey 1 = .ok (.getfield 40, 3) := by decide +kernel
theorem dX11_journey_4 : decode cX11_journey 4 = .ok (.aload_n 0, 1) := by decide +kernel
theorem dX11_journey_5 : decode cX11_journey 5 = .ok (.getfield 10, 3) := by decide +kernel
theorem dX11_journey_8 : decode cX11_journey 8 = .ok (.aload_n 0, 1) := by decide +kernel
theorem dX11_journey_9 : decode cX11_journey 9 = .ok (.getfield 19, 3) := by decide +kernel
theorem dX11_journey_12 : decode cX11_journey 12 = .ok (.invokevirtual 129, 3) := by decide +kernel
theorem dX11_journey_15 : decode cX11_journey 15 = .ok (.istore_n 1, 1) := by decide +kernel
theorem dX11_journey_16 : decode cX11_journey 16 = .ok (.aload_n 0, 1) := by decide +kernel
theorem dX11_journey_17 : decode cX11_journey 17 = .ok (.getfield 10, 3) := by decide +kernel
theorem dX11_journey_20 : decode cX11_journey 20 = .ok (.iconst 0, 1) := by decide +kernel
theorem dX11_journey_21 : decode cX11_journey 21 = .ok (.putfield 100, 3) := by decide +kernel
theorem dX11_journey_24 : decode cX11_journey 24 = .ok (.iload_n 1, 1) := by decide +kernel
theorem dX11_journey_25 : decode cX11_journey 25 = .ok (.ifCond .ne 11, 3) := by decide +kernel
theorem dX11_journey_28 : decode cX11_journey 28 = .ok (.aload_n 0, 1) := by decide +kernel
theorem dX11_journey_29 : decode cX11_journey 29 = .ok (.getfield 10, 3) := by decide +kernel
theorem dX11_journey_32 : decode cX11_journey 32 = .ok (.getfield 107, 3) := by decide +kernel
theorem dX11_journey_35 : decode cX11_journey 35 = .ok (.ireturn, 1) := by decide +kernel
theorem dX11_journey_36 : decode cX11_journey 36 = .ok (.aload_n 0, 1) := by decide +kernel
theorem dX11_journey_37 : decode cX11_journey 37 = .ok (.getfield 36, 3) := by decide +kernel
theorem dX11_journey_40 : decode cX11_journey 40 = .ok (.aload_n 0, 1) := by decide +kernel
theorem dX11_journey_41 : decode cX11_journey 41 = .ok (.getfield 40, 3) := by decide +kernel
theorem dX11_journey_44 : decode cX11_journey 44 = .ok (.invokevirtual 130, 3) := by decide +kernel
theorem dX11_journey_47 : decode cX11_journey 47 = .ok (.iconst 0, 1) := by decide +kernel
theorem dX11_journey_48 : decode cX11_journey 48 = .ok (.ireturn, 1) := by decide +kernel
set_option maxRecDepth 20000 in
theorem ggX11_person_X11_isPerson : GoodIn wsX11_person wsX11_isPerson := goodIn_r _ [13, 1, 14, 15, 16, 17, 18, 19, 20, 21, 22, 23, 24, 25, 26, 27, 28, 29, 30, 31, 32, 33, 34, 35, 36, 37, 38, 39, 40, 41, 42] (by decide +kernel) (by decide +kernel)
set_option maxRecDepth 20000 in
theorem gX11_person_X11_isPerson : GoodIn wsX11_person (wsV RX11 133 RX11 yX11_isPerson wsX11_isPerson) := goodIn_app (goodIn_of _ (by decide +kernel)) ggX11_person_X11_isPerson
theorem dX11_person_0 : decode cX11_person 0 = .ok (.aload_n 0, 1) := by decide +kernel
theorem dX11_person_1 : decode cX11_person 1 = .ok (.iload_n 1, 1) := by decide +kernel
theorem dX11_person_2 : decode cX11_person 2 = .ok (.invokevirtual 133, 3) := by decide +kernel
theorem dX11_person_5 : decode cX11_person 5 = .ok (.ifCond .ne 5, 3) := by decide +kernel
theorem dX11_person_8 : decode cX11_person 8 = .ok (.iconst (-1), 1) := by decide +kernel
theorem dX11_person_9 : decode cX11_person 9 = .ok (.ireturn, 1) := by decide +kernel
theorem dX11_person_10 : decode cX11_person 10 = .ok (.iload_n 2, 1) := by decide +kernel
theorem dX11_person_11 : decode cX11_person 11 = .ok (.tableswitch 107 0 5 #[37, 47, 57, 77, 87, 97], 37) := by decide +kernel
theorem dX11_person_48 : decode cX11_person 48 = .ok (.aload_n 0, 1) := by decide +kernel
theorem dX11_person_49 : decode cX11_person 49 = .ok (.getfield 19, 3) := by decide +kernel
theorem dX11_person_52 : decode cX11_person 52 = .ok (.getfield 137, 3) := by decide +kernel
theorem dX11_person_55 : decode cX11_person 55 = .ok (.iload_n 1, 1) := by decide +kernel
theorem dX11_person_56 : decode cX11_person 56 = .ok (.iaload, 1) := by decide +kernel
theorem dX11_person_57 : decode cX11_person 57 = .ok (.ireturn, 1) := by decide +kernel
theorem dX11_person_58 : decode cX11_person 58 = .ok (.aload_n 0, 1) := by decide +kernel
theorem dX11_person_59 : decode cX11_person 59 = .ok (.getfield 64, 3) := by decide +kernel
theorem dX11_person_62 : decode cX11_person 62 = .ok (.getfield 141, 3) := by decide +kernel
theorem dX11_person_65 : decode cX11_person 65 = .ok (.iload_n 1, 1) := by decide +kernel
theorem dX11_person_66 : decode cX11_person 66 = .ok (.iaload, 1) := by decide +kernel
theorem dX11_person_67 : decode cX11_person 67 = .ok (.ireturn, 1) := by decide +kernel
theorem dX11_person_68 : decode cX11_person 68 = .ok (.aload_n 0, 1) := by decide +kernel
theorem dX11_person_69 : decode cX11_person 69 = .ok (.getfield 64, 3) := by decide +kernel
theorem dX11_person_72 : decode cX11_person 72 = .ok (.getfield 144, 3) := by decide +kernel
theorem dX11_person_75 : decode cX11_person 75 = .ok (.iload_n 1, 1) := by decide +kernel
theorem dX11_person_76 : decode cX11_person 76 = .ok (.iaload, 1) := by decide +kernel
theorem dX11_person_77 : decode cX11_person 77 = .ok (.aload_n 0, 1) := by decide +kernel
theorem dX11_person_78 : decode cX11_person 78 = .ok (.getfield 64, 3) := by decide +kernel
theorem dX11_person_81 : decode cX11_person 81 = .ok (.getfield 147, 3) := by decide +kernel
theorem dX11_person_84 : decode cX11_person 84 = .ok (.iload_n 1, 1) := by decide +kernel
theorem dX11_person_85 : decode cX11_person 85 = .ok (.iaload, 1) := by decide +kernel
theorem dX11_person_86 : decode cX11_person 86 = .ok (.iadd, 1) := by decide +kernel
theorem dX11_person_87 : decode cX11_person 87 = .ok (.ireturn, 1) := by decide +kernel
theorem dX11_person_88 : decode cX11_person 88 = .ok (.aload_n 0, 1) := by decide +kernel
theorem dX11_person_89 : decode cX11_person 89 = .ok (.getfield 64, 3) := by decide +kernel
theorem dX11_person_92 : decode cX11_person 92 = .ok (.getfield 147, 3) := by decide +kernel
theorem dX11_person_95 : decode cX11_person 95 = .ok (.iload_n 1, 1) := by decide +kernel
theorem dX11_person_96 : decode cX11_person 96 = .ok (.iaload, 1) := by decide +kernel
theorem dX11_person_97 : decode cX11_person 97 = .ok (.ireturn, 1) := by decide +kernel
theorem dX11_person_98 : decode cX11_person 98 = .ok (.aload_n 0, 1) := by decide +kernel
theorem dX11_person_99 : decode cX11_person 99 = .ok (.getfield 64, 3) := by decide +kernel
theorem dX11_person_102 : decode cX11_person 102 = .ok (.getfield 150, 3) := by decide +kernel
theorem dX11_person_105 : decode cX11_person 105 = .ok (.iload_n 1, 1) := by decide +kernel
theorem dX11_person_106 : decode cX11_person 106 = .ok (.iaload, 1) := by decide +kernel
theorem dX11_person_107 : decode cX11_person 107 = .ok (.ireturn, 1) := by decide +kernel
theorem dX11_person_108 : decode cX11_person 108 = .ok (.aload_n 0, 1) := by decide +kernel
theorem dX11_person_109 : decode cX11_person 109 = .ok (.getfield 64, 3) := by decide +kernel
theorem dX11_person_112 : decode cX11_person 112 = .ok (.getfield 153, 3) := by decide +kernel
theorem dX11_person_115 : decode cX11_person 115 = .ok (.iload_n 1, 1) := by decide +kernel
theorem dX11_person_116 : decode cX11_person 116 = .ok (.iaload, 1) := by decide +kernel
theorem dX11_person_117 : decode cX11_person 117 = .ok (.ireturn, 1) := by decide +kernel
theorem dX11_person_118 : decode cX11_person 118 = .ok (.iconst (-1), 1) := by decide +kernel
theorem dX11_person_119 : decode cX11_person 119 = .ok (.ireturn, 1) := by decide +kernel
set_option maxRecDepth 20000 in
theorem ggX11_town_X11_isTown : GoodIn wsX11_town wsX11_isTown := goodIn_r _ [10, 1, 11, 52, 53, 54, 55, 56, 57, 58, 59, 60, 61, 62, 63, 64, 65, 66, 67, 68, 69, 70, 71, 72, 73, 74, 75, 76, 77, 78, 79] (by decide +kernel) (by decide +kernel)
set_option maxRecDepth 20000 in
theorem gX11_town_X11_isTown : GoodIn wsX11_town (wsV RX11 156 RX11 yX11_isTown wsX11_isTown) := goodIn_app (goodIn_of _ (by decide +kernel)) ggX11_town_X11_isTown
set_option maxRecDepth 20000 in
theorem ggX11_town_X0_letThrough : GoodIn wsX11_town wsX0_letThrough := goodIn_r _ [16, 17, 18, 19, 20, 21, 15, 22, 23, 24, 25, 26, 27, 28, 29, 30, 31, 32, 33, 34, 35, 36, 37, 38, 39, 40, 41, 42, 43, 44, 45, 46, 47, 48, 49, 50, 51, 80, 67, 68, 69, 70, 71, 72, 73, 74, 75, 76, 77, 78, 79, 81, 82, 83, 84, 85, 86, 87, 88, 89] (by decide +kernel) (by decide +kernel)
set_option maxRecDepth 20000 in
theorem gX11_town_X0_letThrough : GoodIn wsX11_town (wsV RX11 165 RX0 yX0_letThrough wsX0_letThrough) := goodIn_app (goodIn_of _ (by decide +kernel)) ggX11_town_X0_letThrough
theorem dX11_town_0 : decode cX11_town 0 = .ok (.aload_n 0, 1) := by decide +kernel
theorem dX11_town_1 : decode cX11_town 1 = .ok (.iload_n 1, 1) := by decide +kernel
theorem dX11_town_2 : decode cX11_town 2 = .ok (.invokevirtual 156, 3) := by decide +kernel
theorem dX11_town_5 : decode cX11_town 5 = .ok (.ifCond .ne 5, 3) := by decide +kernel
theorem dX11_town_8 : decode cX11_town 8 = .ok (.iconst (-1), 1) := by decide +kernel
theorem dX11_town_9 : decode cX11_town 9 = .ok (.ireturn, 1) := by decide +kernel
theorem dX11_town_10 : decode cX11_town 10 = .ok (.iload_n 2, 1) := by decide +kernel
theorem dX11_town_11 : decode cX11_town 11 = .ok (.tableswitch 58 0 2 #[25, 35, 45], 25) := by decide +kernel
theorem dX11_town_36 : decode cX11_town 36 = .ok (.aload_n 0, 1) := by decide +kernel
theorem dX11_town_37 : decode cX11_town 37 = .ok (.getfield 19, 3) := by decide +kernel
theorem dX11_town_40 : decode cX11_town 40 = .ok (.getfield 159, 3) := by decide +kernel
theorem dX11_town_43 : decode cX11_town 43 = .ok (.iload_n 1, 1) := by decide +kernel
theorem dX11_town_44 : decode cX11_town 44 = .ok (.iaload, 1) := by decide +kernel
theorem dX11_town_45 : decode cX11_town 45 = .ok (.ireturn, 1) := by decide +kernel
theorem dX11_town_46 : decode cX11_town 46 = .ok (.aload_n 0, 1) := by decide +kernel
theorem dX11_town_47 : decode cX11_town 47 = .ok (.getfield 19, 3) := by decide +kernel
theorem dX11_town_50 : decode cX11_town 50 = .ok (.getfield 162, 3) := by decide +kernel
theorem dX11_town_53 : decode cX11_town 53 = .ok (.iload_n 1, 1) := by decide +kernel
theorem dX11_town_54 : decode cX11_town 54 = .ok (.iaload, 1) := by decide +kernel
theorem dX11_town_55 : decode cX11_town 55 = .ok (.ireturn, 1) := by decide +kernel
theorem dX11_town_56 : decode cX11_town 56 = .ok (.aload_n 0, 1) := by decide +kernel
theorem dX11_town_57 : decode cX11_town 57 = .ok (.getfield 48, 3) := by decide +kernel
theorem dX11_town_60 : decode cX11_town 60 = .ok (.aload_n 0, 1) := by decide +kernel
theorem dX11_town_61 : decode cX11_town 61 = .ok (.getfield 64, 3) := by decide +kernel
theorem dX11_town_64 : decode cX11_town 64 = .ok (.iload_n 1, 1) := by decide +kernel
theorem dX11_town_65 : decode cX11_town 65 = .ok (.invokevirtual 165, 3) := by decide +kernel
theorem dX11_town_68 : decode cX11_town 68 = .ok (.ireturn, 1) := by decide +kernel
theorem dX11_town_69 : decode cX11_town 69 = .ok (.iconst (-1), 1) := by decide +kernel
theorem dX11_town_70 : decode cX11_town 70 = .ok (.ireturn, 1) := by decide +kernel
set_option maxRecDepth 20000 in
theorem ggX11_count_X8_peopled : GoodIn wsX11_count wsX8_peopled := goodIn_r _ [21, 22, 56, 57, 58, 59, 60, 61] (by decide +kernel) (by decide +kernel)
set_option maxRecDepth 20000 in
theorem gX11_count_X8_peopled : GoodIn wsX11_count (wsV RX11 184 RX8 yX8_peopled wsX8_peopled) := goodIn_app (goodIn_of _ (by decide +kernel)) ggX11_count_X8_peopled
set_option maxRecDepth 20000 in
theorem ggX11_count_X11_sum : GoodIn wsX11_count wsX11_sum := goodIn_r _ [27, 1, 3, 28, 29, 30, 31, 32, 33, 34, 35, 36, 37, 38, 39, 40, 41, 42, 43, 44, 45, 46, 47, 48, 49, 50, 51, 52, 53, 54, 55] (by decide +kernel) (by decide +kernel)
set_option maxRecDepth 20000 in
theorem gX11_count_X11_sum : GoodIn wsX11_count (wsV RX11 188 RX11 yX11_sum wsX11_sum) := goodIn_app (goodIn_of _ (by decide +kernel)) ggX11_count_X11_sum
theorem dX11_count_0 : decode cX11_count 0 = .ok (.iload_n 1, 1) := by decide +kernel
theorem dX11_count_1 : decode cX11_count 1 = .ok (.tableswitch 171 0 11 #[63, 71, 79, 87, 95, 103, 118, 130, 142, 150, 158, 163], 63) := by decide +kernel
theorem dX11_count_64 : decode cX11_count 64 = .ok (.aload_n 0, 1) := by decide +kernel
theorem dX11_count_65 : decode cX11_count 65 = .ok (.getfield 19, 3) := by decide +kernel
theorem dX11_count_68 : decode cX11_count 68 = .ok (.getfield 169, 3) := by decide +kernel
theorem dX11_count_71 : decode cX11_count 71 = .ok (.ireturn, 1) := by decide +kernel
theorem dX11_count_72 : decode cX11_count 72 = .ok (.aload_n 0, 1) := by decide +kernel
theorem dX11_count_73 : decode cX11_count 73 = .ok (.getfield 19, 3) := by decide +kernel
theorem dX11_count_76 : decode cX11_count 76 = .ok (.getfield 172, 3) := by decide +kernel
theorem dX11_count_79 : decode cX11_count 79 = .ok (.ireturn, 1) := by decide +kernel
theorem dX11_count_80 : decode cX11_count 80 = .ok (.aload_n 0, 1) := by decide +kernel
theorem dX11_count_81 : decode cX11_count 81 = .ok (.getfield 19, 3) := by decide +kernel
theorem dX11_count_84 : decode cX11_count 84 = .ok (.getfield 175, 3) := by decide +kernel
theorem dX11_count_87 : decode cX11_count 87 = .ok (.ireturn, 1) := by decide +kernel
theorem dX11_count_88 : decode cX11_count 88 = .ok (.aload_n 0, 1) := by decide +kernel
theorem dX11_count_89 : decode cX11_count 89 = .ok (.getfield 19, 3) := by decide +kernel
theorem dX11_count_92 : decode cX11_count 92 = .ok (.getfield 178, 3) := by decide +kernel
theorem dX11_count_95 : decode cX11_count 95 = .ok (.ireturn, 1) := by decide +kernel
theorem dX11_count_96 : decode cX11_count 96 = .ok (.aload_n 0, 1) := by decide +kernel
theorem dX11_count_97 : decode cX11_count 97 = .ok (.getfield 64, 3) := by decide +kernel
theorem dX11_count_100 : decode cX11_count 100 = .ok (.getfield 181, 3) := by decide +kernel
theorem dX11_count_103 : decode cX11_count 103 = .ok (.ireturn, 1) := by decide +kernel
theorem dX11_count_104 : decode cX11_count 104 = .ok (.aload_n 0, 1) := by decide +kernel
theorem dX11_count_105 : decode cX11_count 105 = .ok (.getfield 64, 3) := by decide +kernel
theorem dX11_count_108 : decode cX11_count 108 = .ok (.aload_n 0, 1) := by decide +kernel
theorem dX11_count_109 : decode cX11_count 109 = .ok (.getfield 19, 3) := by decide +kernel
theorem dX11_count_112 : decode cX11_count 112 = .ok (.getfield 172, 3) := by decide +kernel
theorem dX11_count_115 : decode cX11_count 115 = .ok (.invokevirtual 184, 3) := by decide +kernel
theorem dX11_count_118 : decode cX11_count 118 = .ok (.ireturn, 1) := by decide +kernel
theorem dX11_count_119 : decode cX11_count 119 = .ok (.aload_n 0, 1) := by decide +kernel
theorem dX11_count_120 : decode cX11_count 120 = .ok (.aload_n 0, 1) := by decide +kernel
theorem dX11_count_121 : decode cX11_count 121 = .ok (.getfield 64, 3) := by decide +kernel
theorem dX11_count_124 : decode cX11_count 124 = .ok (.getfield 147, 3) := by decide +kernel
theorem dX11_count_127 : decode cX11_count 127 = .ok (.invokevirtual 188, 3) := by decide +kernel
theorem dX11_count_130 : decode cX11_count 130 = .ok (.ireturn, 1) := by decide +kernel
theorem dX11_count_131 : decode cX11_count 131 = .ok (.aload_n 0, 1) := by decide +kernel
theorem dX11_count_132 : decode cX11_count 132 = .ok (.aload_n 0, 1) := by decide +kernel
theorem dX11_count_133 : decode cX11_count 133 = .ok (.getfield 64, 3) := by decide +kernel
theorem dX11_count_136 : decode cX11_count 136 = .ok (.getfield 150, 3) := by decide +kernel
theorem dX11_count_139 : decode cX11_count 139 = .ok (.invokevirtual 188, 3) := by decide +kernel
theorem dX11_count_142 : decode cX11_count 142 = .ok (.ireturn, 1) := by decide +kernel
theorem dX11_count_143 : decode cX11_count 143 = .ok (.aload_n 0, 1) := by decide +kernel
theorem dX11_count_144 : decode cX11_count 144 = .ok (.getfield 36, 3) := by decide +kernel
theorem dX11_count_147 : decode cX11_count 147 = .ok (.getfield 116, 3) := by decide +kernel
theorem dX11_count_150 : decode cX11_count 150 = .ok (.ireturn, 1) := by decide +kernel
theorem dX11_count_151 : decode cX11_count 151 = .ok (.aload_n 0, 1) := by decide +kernel
theorem dX11_count_152 : decode cX11_count 152 = .ok (.getfield 74, 3) := by decide +kernel
theorem dX11_count_155 : decode cX11_count 155 = .ok (.getfield 192, 3) := by decide +kernel
theorem dX11_count_158 : decode cX11_count 158 = .ok (.ireturn, 1) := by decide +kernel
theorem dX11_count_159 : decode cX11_count 159 = .ok (.aload_n 0, 1) := by decide +kernel
theorem dX11_count_160 : decode cX11_count 160 = .ok (.getfield 92, 3) := by decide +kernel
theorem dX11_count_163 : decode cX11_count 163 = .ok (.ireturn, 1) := by decide +kernel
theorem dX11_count_164 : decode cX11_count 164 = .ok (.aload_n 0, 1) := by decide +kernel
theorem dX11_count_165 : decode cX11_count 165 = .ok (.getfield 10, 3) := by decide +kernel
theorem dX11_count_168 : decode cX11_count 168 = .ok (.getfield 100, 3) := by decide +kernel
theorem dX11_count_171 : decode cX11_count 171 = .ok (.ireturn, 1) := by decide +kernel
theorem dX11_count_172 : decode cX11_count 172 = .ok (.iconst (-1), 1) := by decide +kernel
theorem dX11_count_173 : decode cX11_count 173 = .ok (.ireturn, 1) := by decide +kernel
theorem dX11_sum_0 : decode cX11_sum 0 = .ok (.iconst 0, 1) := by decide +kernel
theorem dX11_sum_1 : decode cX11_sum 1 = .ok (.istore_n 2, 1) := by decide +kernel
theorem dX11_sum_2 : decode cX11_sum 2 = .ok (.iconst 0, 1) := by decide +kernel
theorem dX11_sum_3 : decode cX11_sum 3 = .ok (.istore_n 3, 1) := by decide +kernel
theorem dX11_sum_4 : decode cX11_sum 4 = .ok (.iload_n 3, 1) := by decide +kernel
theorem dX11_sum_5 : decode cX11_sum 5 = .ok (.aload_n 0, 1) := by decide +kernel
theorem dX11_sum_6 : decode cX11_sum 6 = .ok (.getfield 19, 3) := by decide +kernel
theorem dX11_sum_9 : decode cX11_sum 9 = .ok (.getfield 172, 3) := by decide +kernel
theorem dX11_sum_12 : decode cX11_sum 12 = .ok (.if_icmp .ge 21, 3) := by decide +kernel
theorem dX11_sum_15 : decode cX11_sum 15 = .ok (.iload_n 3, 1) := by decide +kernel
theorem dX11_sum_16 : decode cX11_sum 16 = .ok (.aload_n 1, 1) := by decide +kernel
theorem dX11_sum_17 : decode cX11_sum 17 = .ok (.arraylength, 1) := by decide +kernel
theorem dX11_sum_18 : decode cX11_sum 18 = .ok (.if_icmp .ge 15, 3) := by decide +kernel
theorem dX11_sum_21 : decode cX11_sum 21 = .ok (.iload_n 2, 1) := by decide +kernel
theorem dX11_sum_22 : decode cX11_sum 22 = .ok (.aload_n 1, 1) := by decide +kernel
theorem dX11_sum_23 : decode cX11_sum 23 = .ok (.iload_n 3, 1) := by decide +kernel
theorem dX11_sum_24 : decode cX11_sum 24 = .ok (.iaload, 1) := by decide +kernel
theorem dX11_sum_25 : decode cX11_sum 25 = .ok (.iadd, 1) := by decide +kernel
theorem dX11_sum_26 : decode cX11_sum 26 = .ok (.istore_n 2, 1) := by decide +kernel
theorem dX11_sum_27 : decode cX11_sum 27 = .ok (.iinc 3 1, 3) := by decide +kernel
theorem dX11_sum_30 : decode cX11_sum 30 = .ok (.goto (-26), 3) := by decide +kernel
theorem dX11_sum_33 : decode cX11_sum 33 = .ok (.iload_n 2, 1) := by decide +kernel
theorem dX11_sum_34 : decode cX11_sum 34 = .ok (.ireturn, 1) := by decide +kernel
theorem dX11_isPerson_0 : decode cX11_isPerson 0 = .ok (.iload_n 1, 1) := by decide +kernel
theorem dX11_isPerson_1 : decode cX11_isPerson 1 = .ok (.ifCond .lt 18, 3) := by decide +kernel
theorem dX11_isPerson_4 : decode cX11_isPerson 4 = .ok (.iload_n 1, 1) := by decide +kernel
theorem dX11_isPerson_5 : decode cX11_isPerson 5 = .ok (.aload_n 0, 1) := by decide +kernel
theorem dX11_isPerson_6 : decode cX11_isPerson 6 = .ok (.getfield 19, 3) := by decide +kernel
theorem dX11_isPerson_9 : decode cX11_isPerson 9 = .ok (.getfield 172, 3) := by decide +kernel
theorem dX11_isPerson_12 : decode cX11_isPerson 12 = .ok (.if_icmp .ge 7, 3) := by decide +kernel
theorem dX11_isPerson_15 : decode cX11_isPerson 15 = .ok (.iconst 1, 1) := by decide +kernel
theorem dX11_isPerson_16 : decode cX11_isPerson 16 = .ok (.goto 4, 3) := by decide +kernel
theorem dX11_isPerson_19 : decode cX11_isPerson 19 = .ok (.iconst 0, 1) := by decide +kernel
theorem dX11_isPerson_20 : decode cX11_isPerson 20 = .ok (.ireturn, 1) := by decide +kernel
theorem dX11_isTown_0 : decode cX11_isTown 0 = .ok (.iload_n 1, 1) := by decide +kernel
theorem dX11_isTown_1 : decode cX11_isTown 1 = .ok (.ifCond .lt 18, 3) := by decide +kernel
theorem dX11_isTown_4 : decode cX11_isTown 4 = .ok (.iload_n 1, 1) := by decide +kernel
theorem dX11_isTown_5 : decode cX11_isTown 5 = .ok (.aload_n 0, 1) := by decide +kernel
theorem dX11_isTown_6 : decode cX11_isTown 6 = .ok (.getfield 19, 3) := by decide +kernel
theorem dX11_isTown_9 : decode cX11_isTown 9 = .ok (.getfield 169, 3) := by decide +kernel
theorem dX11_isTown_12 : decode cX11_isTown 12 = .ok (.if_icmp .ge 7, 3) := by decide +kernel
theorem dX11_isTown_15 : decode cX11_isTown 15 = .ok (.iconst 1, 1) := by decide +kernel
theorem dX11_isTown_16 : decode cX11_isTown 16 = .ok (.goto 4, 3) := by decide +kernel
theorem dX11_isTown_19 : decode cX11_isTown 19 = .ok (.iconst 0, 1) := by decide +kernel
theorem dX11_isTown_20 : decode cX11_isTown 20 = .ok (.ireturn, 1) := by decide +kernel
set_option maxRecDepth 20000 in
theorem ggX11_go_X11_isPerson : GoodIn wsX11_go wsX11_isPerson := goodIn_r _ [7, 8, 9, 88, 89, 90, 91, 92, 93, 94, 95, 96, 97, 98, 99, 100, 101, 102, 103, 104, 105, 106, 107, 108, 109, 110, 111, 112, 113, 114, 115] (by decide +kernel) (by decide +kernel)
set_option maxRecDepth 20000 in
theorem gX11_go_X11_isPerson : GoodIn wsX11_go (wsV RX11 133 RX11 yX11_isPerson wsX11_isPerson) := goodIn_app (goodIn_of _ (by decide +kernel)) ggX11_go_X11_isPerson
set_option maxRecDepth 20000 in
theorem ggX11_go_X11_isTown : GoodIn wsX11_go wsX11_isTown := goodIn_r _ [13, 8, 14, 88, 89, 90, 91, 92, 93, 94, 95, 96, 97, 98, 99, 100, 101, 102, 103, 104, 105, 106, 107, 108, 109, 110, 111, 112, 113, 114, 115] (by decide +kernel) (by decide +kernel)
set_option maxRecDepth 20000 in
theorem gX11_go_X11_isTown : GoodIn wsX11_go (wsV RX11 156 RX11 yX11_isTown wsX11_isTown) := goodIn_app (goodIn_of _ (by decide +kernel)) ggX11_go_X11_isTown
set_option maxRecDepth 20000 in
theorem ggX11_go_X0_canGo : GoodIn wsX11_go wsX0_canGo := goodIn_r _ [19, 20, 21, 22, 23, 6, 24, 25, 26, 27, 18, 28, 29, 30, 31, 32, 33, 34, 35, 36, 37, 38, 39, 40, 41, 42, 43, 44, 45, 46, 47, 48, 49, 50, 51, 52, 53, 54, 55, 56, 57, 116, 103, 104, 105, 106, 107, 108, 109, 110, 111, 112, 113, 114, 115, 117, 118, 119, 120, 121, 122, 123, 124, 125] (by decide +kernel) (by decide +kernel)
set_option maxRecDepth 20000 in
theorem gX11_go_X0_canGo : GoodIn wsX11_go (wsV RX11 195 RX0 yX0_canGo wsX0_canGo) := goodIn_app (goodIn_of _ (by decide +kernel)) ggX11_go_X0_canGo
set_option maxRecDepth 20000 in
theorem ggX11_go_X11_remember : GoodIn wsX11_go wsX11_remember := goodIn_r _ [61, 62, 63, 2, 64, 65, 66, 67, 68, 69, 70, 71, 72, 73, 74, 75, 76, 77, 78, 79, 80, 81, 82, 83, 88, 89, 90, 91, 92, 93, 94, 95, 96, 97, 98, 99, 100, 101, 102, 117, 118, 119, 120, 121, 122] (by decide +kernel) (by decide +kernel)
set_option maxRecDepth 20000 in
theorem gX11_go_X11_remember : GoodIn wsX11_go (wsV RX11 199 RX11 yX11_remember wsX11_remember) := goodIn_app (goodIn_of _ (by decide +kernel)) ggX11_go_X11_remember
set_option maxRecDepth 20000 in
theorem ggX11_go_X8_arrive : GoodIn wsX11_go wsX8_arrive := goodIn_r _ [87, 75, 83, 117, 118, 119, 120, 121, 122] (by decide +kernel) (by decide +kernel)
set_option maxRecDepth 20000 in
theorem gX11_go_X8_arrive : GoodIn wsX11_go (wsV RX11 202 RX8 yX8_arrive wsX8_arrive) := goodIn_app (goodIn_of _ (by decide +kernel)) ggX11_go_X8_arrive
theorem dX11_go_0 : decode cX11_go 0 = .ok (.aload_n 0, 1) := by decide +kernel
theorem dX11_go_1 : decode cX11_go 1 = .ok (.iload_n 1, 1) := by decide +kernel
theorem dX11_go_2 : decode cX11_go 2 = .ok (.invokevirtual 133, 3) := by decide +kernel
theorem dX11_go_5 : decode cX11_go 5 = .ok (.ifCond .eq 27, 3) := by decide +kernel
theorem dX11_go_8 : decode cX11_go 8 = .ok (.aload_n 0, 1) := by decide +kernel
theorem dX11_go_9 : decode cX11_go 9 = .ok (.iload_n 2, 1) := by decide +kernel
theorem dX11_go_10 : decode cX11_go 10 = .ok (.invokevirtual 156, 3) := by decide +kernel
theorem dX11_go_13 : decode cX11_go 13 = .ok (.ifCond .eq 19, 3) := by decide +kernel
theorem dX11_go_16 : decode cX11_go 16 = .ok (.aload_n 0, 1) := by decide +kernel
theorem dX11_go_17 : decode cX11_go 17 = .ok (.getfield 48, 3) := by decide +kernel
theorem dX11_go_20 : decode cX11_go 20 = .ok (.aload_n 0, 1) := by decide +kernel
theorem dX11_go_21 : decode cX11_go 21 = .ok (.getfield 64, 3) := by decide +kernel
theorem dX11_go_24 : decode cX11_go 24 = .ok (.iload_n 1, 1) := by decide +kernel
theorem dX11_go_25 : decode cX11_go 25 = .ok (.iload_n 2, 1) := by decide +kernel
theorem dX11_go_26 : decode cX11_go 26 = .ok (.invokevirtual 195, 3) := by decide +kernel
theorem dX11_go_29 : decode cX11_go 29 = .ok (.ifCond .ne 5, 3) := by decide +kernel
theorem dX11_go_32 : decode cX11_go 32 = .ok (.iconst 0, 1) := by decide +kernel
theorem dX11_go_33 : decode cX11_go 33 = .ok (.ireturn, 1) := by decide +kernel
theorem dX11_go_34 : decode cX11_go 34 = .ok (.aload_n 0, 1) := by decide +kernel
theorem dX11_go_35 : decode cX11_go 35 = .ok (.invokevirtual 199, 3) := by decide +kernel
theorem dX11_go_38 : decode cX11_go 38 = .ok (.aload_n 0, 1) := by decide +kernel
theorem dX11_go_39 : decode cX11_go 39 = .ok (.getfield 64, 3) := by decide +kernel
theorem dX11_go_42 : decode cX11_go 42 = .ok (.iload_n 1, 1) := by decide +kernel
theorem dX11_go_43 : decode cX11_go 43 = .ok (.iload_n 2, 1) := by decide +kernel
theorem dX11_go_44 : decode cX11_go 44 = .ok (.invokevirtual 202, 3) := by decide +kernel
theorem dX11_go_47 : decode cX11_go 47 = .ok (.iconst 1, 1) := by decide +kernel
theorem dX11_go_48 : decode cX11_go 48 = .ok (.ireturn, 1) := by decide +kernel
set_option maxRecDepth 20000 in
theorem ggX11_forge_X11_isPerson : GoodIn wsX11_forge wsX11_isPerson := goodIn_r _ [8, 9, 10, 51, 52, 53, 54, 55, 56, 57, 58, 59, 60, 61, 62, 63, 64, 65, 72, 73, 74, 75, 76, 77, 78, 79, 80, 81, 82, 83, 84] (by decide +kernel) (by decide +kernel)
set_option maxRecDepth 20000 in
theorem gX11_forge_X11_isPerson : GoodIn wsX11_forge (wsV RX11 133 RX11 yX11_isPerson wsX11_isPerson) := goodIn_app (goodIn_of _ (by decide +kernel)) ggX11_forge_X11_isPerson
set_option maxRecDepth 20000 in
theorem ggX11_forge_X0_canForge : GoodIn wsX11_forge wsX0_canForge := goodIn_r _ [15, 16, 17, 18, 19, 20, 85, 72, 73, 74, 75, 76, 77, 78, 79, 80, 81, 82, 83, 84, 66, 67, 68, 69, 70, 71] (by decide +kernel) (by decide +kernel)
set_option maxRecDepth 20000 in
theorem gX11_forge_X0_canForge : GoodIn wsX11_forge (wsV RX11 206 RX0 yX0_canForge wsX0_canForge) := goodIn_app (goodIn_of _ (by decide +kernel)) ggX11_forge_X0_canForge
set_option maxRecDepth 20000 in
theorem ggX11_forge_X11_remember : GoodIn wsX11_forge wsX11_remember := goodIn_r _ [24, 25, 26, 2, 27, 28, 29, 30, 31, 32, 33, 34, 35, 36, 37, 38, 39, 40, 41, 42, 43, 44, 45, 46, 51, 52, 53, 54, 55, 56, 57, 58, 59, 60, 61, 62, 63, 64, 65, 66, 67, 68, 69, 70, 71] (by decide +kernel) (by decide +kernel)
set_option maxRecDepth 20000 in
theorem gX11_forge_X11_remember : GoodIn wsX11_forge (wsV RX11 199 RX11 yX11_remember wsX11_remember) := goodIn_app (goodIn_of _ (by decide +kernel)) ggX11_forge_X11_remember
set_option maxRecDepth 20000 in
theorem ggX11_forge_X0_sell : GoodIn wsX11_forge wsX0_sell := goodIn_r _ [50, 18, 20, 16, 19, 66, 67, 68, 69, 70, 71, 85, 72, 73, 74, 75, 76, 77, 78, 79, 80, 81, 82, 83, 84] (by decide +kernel) (by decide +kernel)
set_option maxRecDepth 20000 in
theorem gX11_forge_X0_sell : GoodIn wsX11_forge (wsV RX11 209 RX0 yX0_sell wsX0_sell) := goodIn_app (goodIn_of _ (by decide +kernel)) ggX11_forge_X0_sell
theorem dX11_forge_0 : decode cX11_forge 0 = .ok (.aload_n 0, 1) := by decide +kernel
theorem dX11_forge_1 : decode cX11_forge 1 = .ok (.iload_n 1, 1) := by decide +kernel
theorem dX11_forge_2 : decode cX11_forge 2 = .ok (.invokevirtual 133, 3) := by decide +kernel
theorem dX11_forge_5 : decode cX11_forge 5 = .ok (.ifCond .eq 19, 3) := by decide +kernel
theorem dX11_forge_8 : decode cX11_forge 8 = .ok (.aload_n 0, 1) := by decide +kernel
theorem dX11_forge_9 : decode cX11_forge 9 = .ok (.getfield 48, 3) := by decide +kernel
theorem dX11_forge_12 : decode cX11_forge 12 = .ok (.aload_n 0, 1) := by decide +kernel
theorem dX11_forge_13 : decode cX11_forge 13 = .ok (.getfield 64, 3) := by decide +kernel
theorem dX11_forge_16 : decode cX11_forge 16 = .ok (.iload_n 1, 1) := by decide +kernel
theorem dX11_forge_17 : decode cX11_forge 17 = .ok (.iload_n 2, 1) := by decide +kernel
theorem dX11_forge_18 : decode cX11_forge 18 = .ok (.invokevirtual 206, 3) := by decide +kernel
theorem dX11_forge_21 : decode cX11_forge 21 = .ok (.ifCond .ne 5, 3) := by decide +kernel
theorem dX11_forge_24 : decode cX11_forge 24 = .ok (.iconst (-1), 1) := by decide +kernel
theorem dX11_forge_25 : decode cX11_forge 25 = .ok (.ireturn, 1) := by decide +kernel
theorem dX11_forge_26 : decode cX11_forge 26 = .ok (.aload_n 0, 1) := by decide +kernel
theorem dX11_forge_27 : decode cX11_forge 27 = .ok (.invokevirtual 199, 3) := by decide +kernel
theorem dX11_forge_30 : decode cX11_forge 30 = .ok (.aload_n 0, 1) := by decide +kernel
theorem dX11_forge_31 : decode cX11_forge 31 = .ok (.getfield 48, 3) := by decide +kernel
theorem dX11_forge_34 : decode cX11_forge 34 = .ok (.aload_n 0, 1) := by decide +kernel
theorem dX11_forge_35 : decode cX11_forge 35 = .ok (.getfield 64, 3) := by decide +kernel
theorem dX11_forge_38 : decode cX11_forge 38 = .ok (.iload_n 1, 1) := by decide +kernel
theorem dX11_forge_39 : decode cX11_forge 39 = .ok (.iload_n 2, 1) := by decide +kernel
theorem dX11_forge_40 : decode cX11_forge 40 = .ok (.invokevirtual 209, 3) := by decide +kernel
theorem dX11_forge_43 : decode cX11_forge 43 = .ok (.aload_n 0, 1) := by decide +kernel
theorem dX11_forge_44 : decode cX11_forge 44 = .ok (.getfield 64, 3) := by decide +kernel
theorem dX11_forge_47 : decode cX11_forge 47 = .ok (.getfield 150, 3) := by decide +kernel
theorem dX11_forge_50 : decode cX11_forge 50 = .ok (.iload_n 1, 1) := by decide +kernel
theorem dX11_forge_51 : decode cX11_forge 51 = .ok (.iaload, 1) := by decide +kernel
theorem dX11_forge_52 : decode cX11_forge 52 = .ok (.ireturn, 1) := by decide +kernel
set_option maxRecDepth 20000 in
theorem ggX11_shave_X11_isPerson : GoodIn wsX11_shave wsX11_isPerson := goodIn_r _ [6, 7, 8, 39, 40, 41, 42, 43, 44, 45, 46, 47, 48, 49, 50, 51, 52, 53, 54, 55, 56, 57, 58, 59, 60, 61, 62, 63, 64, 65, 66] (by decide +kernel) (by decide +kernel)
set_option maxRecDepth 20000 in
theorem gX11_shave_X11_isPerson : GoodIn wsX11_shave (wsV RX11 133 RX11 yX11_isPerson wsX11_isPerson) := goodIn_app (goodIn_of _ (by decide +kernel)) ggX11_shave_X11_isPerson
set_option maxRecDepth 20000 in
theorem ggX11_shave_X11_remember : GoodIn wsX11_shave wsX11_remember := goodIn_r _ [12, 13, 14, 1, 15, 16, 17, 18, 19, 20, 21, 22, 23, 24, 25, 26, 27, 28, 29, 30, 31, 32, 33, 34, 39, 40, 41, 42, 43, 44, 45, 46, 47, 48, 49, 50, 51, 52, 53, 67, 68, 69, 70, 71, 72] (by decide +kernel) (by decide +kernel)
set_option maxRecDepth 20000 in
theorem gX11_shave_X11_remember : GoodIn wsX11_shave (wsV RX11 199 RX11 yX11_remember wsX11_remember) := goodIn_app (goodIn_of _ (by decide +kernel)) ggX11_shave_X11_remember
set_option maxRecDepth 20000 in
theorem ggX11_shave_X8_loseBeard : GoodIn wsX11_shave wsX8_loseBeard := goodIn_r _ [38, 31, 32, 67, 68, 69, 70, 71, 72] (by decide +kernel) (by decide +kernel)
set_option maxRecDepth 20000 in
theorem gX11_shave_X8_loseBeard : GoodIn wsX11_shave (wsV RX11 213 RX8 yX8_loseBeard wsX8_loseBeard) := goodIn_app (goodIn_of _ (by decide +kernel)) ggX11_shave_X8_loseBeard
theorem dX11_shave_0 : decode cX11_shave 0 = .ok (.aload_n 0, 1) := by decide +kernel
theorem dX11_shave_1 : decode cX11_shave 1 = .ok (.iload_n 1, 1) := by decide +kernel
theorem dX11_shave_2 : decode cX11_shave 2 = .ok (.invokevirtual 133, 3) := by decide +kernel
theorem dX11_shave_5 : decode cX11_shave 5 = .ok (.ifCond .ne 5, 3) := by decide +kernel
theorem dX11_shave_8 : decode cX11_shave 8 = .ok (.iconst 0, 1) := by decide +kernel
theorem dX11_shave_9 : decode cX11_shave 9 = .ok (.ireturn, 1) := by decide +kernel
theorem dX11_shave_10 : decode cX11_shave 10 = .ok (.aload_n 0, 1) := by decide +kernel
theorem dX11_shave_11 : decode cX11_shave 11 = .ok (.invokevirtual 199, 3) := by decide +kernel
theorem dX11_shave_14 : decode cX11_shave 14 = .ok (.aload_n 0, 1) := by decide +kernel
theorem dX11_shave_15 : decode cX11_shave 15 = .ok (.getfield 64, 3) := by decide +kernel
theorem dX11_shave_18 : decode cX11_shave 18 = .ok (.iload_n 1, 1) := by decide +kernel
theorem dX11_shave_19 : decode cX11_shave 19 = .ok (.invokevirtual 213, 3) := by decide +kernel
theorem dX11_shave_22 : decode cX11_shave 22 = .ok (.iconst 1, 1) := by decide +kernel
theorem dX11_shave_23 : decode cX11_shave 23 = .ok (.ireturn, 1) := by decide +kernel
set_option maxRecDepth 20000 in
theorem ggX11_week_X11_remember : GoodIn wsX11_week wsX11_remember := goodIn_r _ [8, 9, 10, 2, 11, 12, 13, 14, 15, 16, 17, 18, 19, 20, 21, 22, 23, 24, 25, 26, 27, 28, 29, 30, 43, 44, 45, 46, 47, 48, 49, 50, 51, 52, 53, 54, 55, 56, 57, 58, 59, 60, 61, 62, 63] (by decide +kernel) (by decide +kernel)
set_option maxRecDepth 20000 in
theorem gX11_week_X11_remember : GoodIn wsX11_week (wsV RX11 199 RX11 yX11_remember wsX11_remember) := goodIn_app (goodIn_of _ (by decide +kernel)) ggX11_week_X11_remember
set_option maxRecDepth 20000 in
theorem ggX11_week_X0_passWeek : GoodIn wsX11_week wsX0_passWeek := goodIn_r _ [35, 36, 37, 38, 39, 40, 41, 42, 13, 14, 15, 58, 59, 60, 61, 62, 63, 64, 65, 66, 67, 68, 69, 70, 71, 72, 73, 74, 75, 76, 77] (by decide +kernel) (by decide +kernel)
set_option maxRecDepth 20000 in
theorem gX11_week_X0_passWeek : GoodIn wsX11_week (wsV RX11 217 RX0 yX0_passWeek wsX0_passWeek) := goodIn_app (goodIn_of _ (by decide +kernel)) ggX11_week_X0_passWeek
theorem dX11_week_0 : decode cX11_week 0 = .ok (.aload_n 0, 1) := by decide +kernel
theorem dX11_week_1 : decode cX11_week 1 = .ok (.invokevirtual 199, 3) := by decide +kernel
theorem dX11_week_4 : decode cX11_week 4 = .ok (.aload_n 0, 1) := by decide +kernel
theorem dX11_week_5 : decode cX11_week 5 = .ok (.getfield 48, 3) := by decide +kernel
theorem dX11_week_8 : decode cX11_week 8 = .ok (.aload_n 0, 1) := by decide +kernel
theorem dX11_week_9 : decode cX11_week 9 = .ok (.getfield 64, 3) := by decide +kernel
theorem dX11_week_12 : decode cX11_week 12 = .ok (.invokevirtual 217, 3) := by decide +kernel
theorem dX11_week_15 : decode cX11_week 15 = .ok (.aload_n 0, 1) := by decide +kernel
theorem dX11_week_16 : decode cX11_week 16 = .ok (.getfield 64, 3) := by decide +kernel
theorem dX11_week_19 : decode cX11_week 19 = .ok (.getfield 181, 3) := by decide +kernel
theorem dX11_week_22 : decode cX11_week 22 = .ok (.ireturn, 1) := by decide +kernel
set_option maxRecDepth 20000 in
theorem ggX11_undo_X8_copy : GoodIn wsX11_undo wsX8_copy := goodIn_r _ [9, 10, 11, 12, 13, 14, 15, 16, 17, 18, 19, 35, 36, 37, 38, 39, 40] (by decide +kernel) (by decide +kernel)
set_option maxRecDepth 20000 in
theorem gX11_undo_X8_copy : GoodIn wsX11_undo (wsV RX11 221 RX8 yX8_copy wsX8_copy) := goodIn_app (goodIn_of _ (by decide +kernel)) ggX11_undo_X8_copy
theorem dX11_undo_0 : decode cX11_undo 0 = .ok (.aload_n 0, 1) := by decide +kernel
theorem dX11_undo_1 : decode cX11_undo 1 = .ok (.getfield 92, 3) := by decide +kernel
theorem dX11_undo_4 : decode cX11_undo 4 = .ok (.ifCond .ne 5, 3) := by decide +kernel
theorem dX11_undo_7 : decode cX11_undo 7 = .ok (.iconst 0, 1) := by decide +kernel
theorem dX11_undo_8 : decode cX11_undo 8 = .ok (.ireturn, 1) := by decide +kernel
theorem dX11_undo_9 : decode cX11_undo 9 = .ok (.aload_n 0, 1) := by decide +kernel
theorem dX11_undo_10 : decode cX11_undo 10 = .ok (.aload_n 0, 1) := by decide +kernel
theorem dX11_undo_11 : decode cX11_undo 11 = .ok (.getfield 88, 3) := by decide +kernel
theorem dX11_undo_14 : decode cX11_undo 14 = .ok (.bipush 16, 2) := by decide +kernel
theorem dX11_undo_16 : decode cX11_undo 16 = .ok (.iadd, 1) := by decide +kernel
theorem dX11_undo_17 : decode cX11_undo 17 = .ok (.iconst 1, 1) := by decide +kernel
theorem dX11_undo_18 : decode cX11_undo 18 = .ok (.isub, 1) := by decide +kernel
theorem dX11_undo_19 : decode cX11_undo 19 = .ok (.bipush 16, 2) := by decide +kernel
theorem dX11_undo_21 : decode cX11_undo 21 = .ok (.irem, 1) := by decide +kernel
theorem dX11_undo_22 : decode cX11_undo 22 = .ok (.putfield 88, 3) := by decide +kernel
theorem dX11_undo_25 : decode cX11_undo 25 = .ok (.aload_n 0, 1) := by decide +kernel
theorem dX11_undo_26 : decode cX11_undo 26 = .ok (.dup, 1) := by decide +kernel
theorem dX11_undo_27 : decode cX11_undo 27 = .ok (.getfield 92, 3) := by decide +kernel
theorem dX11_undo_30 : decode cX11_undo 30 = .ok (.iconst 1, 1) := by decide +kernel
theorem dX11_undo_31 : decode cX11_undo 31 = .ok (.isub, 1) := by decide +kernel
theorem dX11_undo_32 : decode cX11_undo 32 = .ok (.putfield 92, 3) := by decide +kernel
theorem dX11_undo_35 : decode cX11_undo 35 = .ok (.aload_n 0, 1) := by decide +kernel
theorem dX11_undo_36 : decode cX11_undo 36 = .ok (.getfield 64, 3) := by decide +kernel
theorem dX11_undo_39 : decode cX11_undo 39 = .ok (.aload_n 0, 1) := by decide +kernel
theorem dX11_undo_40 : decode cX11_undo 40 = .ok (.getfield 78, 3) := by decide +kernel
theorem dX11_undo_43 : decode cX11_undo 43 = .ok (.aload_n 0, 1) := by decide +kernel
theorem dX11_undo_44 : decode cX11_undo 44 = .ok (.getfield 88, 3) := by decide +kernel
theorem dX11_undo_47 : decode cX11_undo 47 = .ok (.aaload, 1) := by decide +kernel
theorem dX11_undo_48 : decode cX11_undo 48 = .ok (.invokevirtual 221, 3) := by decide +kernel
theorem dX11_undo_51 : decode cX11_undo 51 = .ok (.iconst 1, 1) := by decide +kernel
theorem dX11_undo_52 : decode cX11_undo 52 = .ok (.ireturn, 1) := by decide +kernel
set_option maxRecDepth 20000 in
theorem ggX11_remember_X8_copy : GoodIn wsX11_remember wsX8_copy := goodIn_r _ [13, 14, 15, 16, 17, 18, 19, 20, 21, 22, 23, 39, 40, 41, 42, 43, 44] (by decide +kernel) (by decide +kernel)
set_option maxRecDepth 20000 in
theorem gX11_remember_X8_copy : GoodIn wsX11_remember (wsV RX11 221 RX8 yX8_copy wsX8_copy) := goodIn_app (goodIn_of _ (by decide +kernel)) ggX11_remember_X8_copy
theorem dX11_remember_0 : decode cX11_remember 0 = .ok (.aload_n 0, 1) := by decide +kernel
theorem dX11_remember_1 : decode cX11_remember 1 = .ok (.getfield 78, 3) := by decide +kernel
theorem dX11_remember_4 : decode cX11_remember 4 = .ok (.aload_n 0, 1) := by decide +kernel
theorem dX11_remember_5 : decode cX11_remember 5 = .ok (.getfield 88, 3) := by decide +kernel
theorem dX11_remember_8 : decode cX11_remember 8 = .ok (.aaload, 1) := by decide +kernel
theorem dX11_remember_9 : decode cX11_remember 9 = .ok (.aload_n 0, 1) := by decide +kernel
theorem dX11_remember_10 : decode cX11_remember 10 = .ok (.getfield 64, 3) := by decide +kernel
theorem dX11_remember_13 : decode cX11_remember 13 = .ok (.invokevirtual 221, 3) := by decide +kernel
theorem dX11_remember_16 : decode cX11_remember 16 = .ok (.aload_n 0, 1) := by decide +kernel
theorem dX11_remember_17 : decode cX11_remember 17 = .ok (.aload_n 0, 1) := by decide +kernel
theorem dX11_remember_18 : decode cX11_remember 18 = .ok (.getfield 88, 3) := by decide +kernel
theorem dX11_remember_21 : decode cX11_remember 21 = .ok (.iconst 1, 1) := by decide +kernel
theorem dX11_remember_22 : decode cX11_remember 22 = .ok (.iadd, 1) := by decide +kernel
theorem dX11_remember_23 : decode cX11_remember 23 = .ok (.bipush 16, 2) := by decide +kernel
theorem dX11_remember_25 : decode cX11_remember 25 = .ok (.irem, 1) := by decide +kernel
theorem dX11_remember_26 : decode cX11_remember 26 = .ok (.putfield 88, 3) := by decide +kernel
theorem dX11_remember_29 : decode cX11_remember 29 = .ok (.aload_n 0, 1) := by decide +kernel
theorem dX11_remember_30 : decode cX11_remember 30 = .ok (.aload_n 0, 1) := by decide +kernel
theorem dX11_remember_31 : decode cX11_remember 31 = .ok (.getfield 92, 3) := by decide +kernel
theorem dX11_remember_34 : decode cX11_remember 34 = .ok (.iconst 1, 1) := by decide +kernel
theorem dX11_remember_35 : decode cX11_remember 35 = .ok (.iadd, 1) := by decide +kernel
theorem dX11_remember_36 : decode cX11_remember 36 = .ok (.bipush 16, 2) := by decide +kernel
theorem dX11_remember_38 : decode cX11_remember 38 = .ok (.invokestatic 223, 3) := by decide +kernel
theorem dX11_remember_41 : decode cX11_remember 41 = .ok (.putfield 92, 3) := by decide +kernel
theorem dX11_remember_44 : decode cX11_remember 44 = .ok (.return_, 1) := by decide +kernel
theorem dX11_forgetPast_0 : decode cX11_forgetPast 0 = .ok (.aload_n 0, 1) := by decide +kernel
theorem dX11_forgetPast_1 : decode cX11_forgetPast 1 = .ok (.iconst 0, 1) := by decide +kernel
theorem dX11_forgetPast_2 : decode cX11_forgetPast 2 = .ok (.putfield 88, 3) := by decide +kernel
theorem dX11_forgetPast_5 : decode cX11_forgetPast 5 = .ok (.aload_n 0, 1) := by decide +kernel
theorem dX11_forgetPast_6 : decode cX11_forgetPast 6 = .ok (.iconst 0, 1) := by decide +kernel
theorem dX11_forgetPast_7 : decode cX11_forgetPast 7 = .ok (.putfield 92, 3) := by decide +kernel
theorem dX11_forgetPast_10 : decode cX11_forgetPast 10 = .ok (.return_, 1) := by decide +kernel
set_option maxRecDepth 20000 in
theorem ggX11_mark_X5_lay : GoodIn wsX11_mark wsX5_lay := goodIn_r _ [13, 14, 15, 16, 17, 18, 19, 20, 21, 22, 23, 24, 25, 26, 27, 28, 29, 30, 31, 32, 33, 34, 35, 36, 37, 38, 39, 40, 41, 42, 43, 44, 45, 46, 47, 48, 49, 75, 76, 77, 78, 79, 80, 81, 82, 83, 84, 85, 86, 87, 88, 89, 90] (by decide +kernel) (by decide +kernel)
set_option maxRecDepth 20000 in
theorem gX11_mark_X5_lay : GoodIn wsX11_mark (wsV RX11 229 RX5 yX5_lay wsX5_lay) := goodIn_app (goodIn_of _ (by decide +kernel)) ggX11_mark_X5_lay
set_option maxRecDepth 20000 in
theorem ggX11_mark_X8_copy : GoodIn wsX11_mark wsX8_copy := goodIn_r _ [22, 23, 24, 25, 26, 27, 28, 29, 30, 31, 32, 79, 80, 81, 82, 83, 84] (by decide +kernel) (by decide +kernel)
set_option maxRecDepth 20000 in
theorem gX11_mark_X8_copy : GoodIn wsX11_mark (wsV RX11 221 RX8 yX8_copy wsX8_copy) := goodIn_app (goodIn_of _ (by decide +kernel)) ggX11_mark_X8_copy
set_option maxRecDepth 20000 in
theorem ggX11_mark_X1_copy : GoodIn wsX11_mark wsX1_copy := goodIn_r _ [37, 38, 39, 40, 26, 27, 28, 41, 42, 85, 86, 87, 88] (by decide +kernel) (by decide +kernel)
set_option maxRecDepth 20000 in
theorem gX11_mark_X1_copy : GoodIn wsX11_mark (wsV RX11 130 RX1 yX1_copy wsX1_copy) := goodIn_app (goodIn_of _ (by decide +kernel)) ggX11_mark_X1_copy
set_option maxRecDepth 20000 in
theorem ggX11_mark_X6_copy : GoodIn wsX11_mark wsX6_copy := goodIn_r _ [47, 48, 49, 89, 90] (by decide +kernel) (by decide +kernel)
set_option maxRecDepth 20000 in
theorem gX11_mark_X6_copy : GoodIn wsX11_mark (wsV RX11 238 RX6 yX6_copy wsX6_copy) := goodIn_app (goodIn_of _ (by decide +kernel)) ggX11_mark_X6_copy
set_option maxRecDepth 20000 in
theorem ggX11_mark_X11_forgetPast : GoodIn wsX11_mark wsX11_forgetPast := goodIn_r _ [57, 58, 59, 60, 61, 62, 63, 64, 65, 66, 67, 68, 69, 70, 71, 72, 73, 74] (by decide +kernel) (by decide +kernel)
set_option maxRecDepth 20000 in
theorem gX11_mark_X11_forgetPast : GoodIn wsX11_mark (wsV RX11 122 RX11 yX11_forgetPast wsX11_forgetPast) := goodIn_app (goodIn_of _ (by decide +kernel)) ggX11_mark_X11_forgetPast
theorem dX11_mark_0 : decode cX11_mark 0 = .ok (.iload_n 1, 1) := by decide +kernel
theorem dX11_mark_1 : decode cX11_mark 1 = .ok (.ifCond .lt 8, 3) := by decide +kernel
theorem dX11_mark_4 : decode cX11_mark 4 = .ok (.iload_n 1, 1) := by decide +kernel
theorem dX11_mark_5 : decode cX11_mark 5 = .ok (.iconst 4, 1) := by decide +kernel
theorem dX11_mark_6 : decode cX11_mark 6 = .ok (.if_icmp .lt 5, 3) := by decide +kernel
theorem dX11_mark_9 : decode cX11_mark 9 = .ok (.iconst 0, 1) := by decide +kernel
theorem dX11_mark_10 : decode cX11_mark 10 = .ok (.ireturn, 1) := by decide +kernel
theorem dX11_mark_11 : decode cX11_mark 11 = .ok (.aload_n 0, 1) := by decide +kernel
theorem dX11_mark_12 : decode cX11_mark 12 = .ok (.getfield 84, 3) := by decide +kernel
theorem dX11_mark_15 : decode cX11_mark 15 = .ok (.iload_n 1, 1) := by decide +kernel
theorem dX11_mark_16 : decode cX11_mark 16 = .ok (.aaload, 1) := by decide +kernel
theorem dX11_mark_17 : decode cX11_mark 17 = .ok (.astore_n 3, 1) := by decide +kernel
theorem dX11_mark_18 : decode cX11_mark 18 = .ok (.iload_n 2, 1) := by decide +kernel
theorem dX11_mark_19 : decode cX11_mark 19 = .ok (.ifCond .ne 21, 3) := by decide +kernel
theorem dX11_mark_22 : decode cX11_mark 22 = .ok (.aload_n 3, 1) := by decide +kernel
theorem dX11_mark_23 : decode cX11_mark 23 = .ok (.aload_n 0, 1) := by decide +kernel
theorem dX11_mark_24 : decode cX11_mark 24 = .ok (.getfield 64, 3) := by decide +kernel
theorem dX11_mark_27 : decode cX11_mark 27 = .ok (.aload_n 0, 1) := by decide +kernel
theorem dX11_mark_28 : decode cX11_mark 28 = .ok (.getfield 36, 3) := by decide +kernel
theorem dX11_mark_31 : decode cX11_mark 31 = .ok (.aload_n 0, 1) := by decide +kernel
theorem dX11_mark_32 : decode cX11_mark 32 = .ok (.getfield 74, 3) := by decide +kernel
theorem dX11_mark_35 : decode cX11_mark 35 = .ok (.invokevirtual 229, 3) := by decide +kernel
theorem dX11_mark_38 : decode cX11_mark 38 = .ok (.iconst 1, 1) := by decide +kernel
theorem dX11_mark_39 : decode cX11_mark 39 = .ok (.ireturn, 1) := by decide +kernel
theorem dX11_mark_40 : decode cX11_mark 40 = .ok (.aload_n 3, 1) := by decide +kernel
theorem dX11_mark_41 : decode cX11_mark 41 = .ok (.getfield 125, 3) := by decide +kernel
theorem dX11_mark_44 : decode cX11_mark 44 = .ok (.ifCond .ne 5, 3) := by decide +kernel
theorem dX11_mark_47 : decode cX11_mark 47 = .ok (.iconst 0, 1) := by decide +kernel
theorem dX11_mark_48 : decode cX11_mark 48 = .ok (.ireturn, 1) := by decide +kernel
theorem dX11_mark_49 : decode cX11_mark 49 = .ok (.aload_n 0, 1) := by decide +kernel
theorem dX11_mark_50 : decode cX11_mark 50 = .ok (.getfield 64, 3) := by decide +kernel
theorem dX11_mark_53 : decode cX11_mark 53 = .ok (.aload_n 3, 1) := by decide +kernel
theorem dX11_mark_54 : decode cX11_mark 54 = .ok (.getfield 233, 3) := by decide +kernel
theorem dX11_mark_57 : decode cX11_mark 57 = .ok (.invokevirtual 221, 3) := by decide +kernel
theorem dX11_mark_60 : decode cX11_mark 60 = .ok (.aload_n 0, 1) := by decide +kernel
theorem dX11_mark_61 : decode cX11_mark 61 = .ok (.getfield 36, 3) := by decide +kernel
theorem dX11_mark_64 : decode cX11_mark 64 = .ok (.aload_n 3, 1) := by decide +kernel
theorem dX11_mark_65 : decode cX11_mark 65 = .ok (.getfield 236, 3) := by decide +kernel
theorem dX11_mark_68 : decode cX11_mark 68 = .ok (.invokevirtual 130, 3) := by decide +kernel
theorem dX11_mark_71 : decode cX11_mark 71 = .ok (.aload_n 0, 1) := by decide +kernel
theorem dX11_mark_72 : decode cX11_mark 72 = .ok (.getfield 74, 3) := by decide +kernel
theorem dX11_mark_75 : decode cX11_mark 75 = .ok (.aload_n 3, 1) := by decide +kernel
theorem dX11_mark_76 : decode cX11_mark 76 = .ok (.getfield 237, 3) := by decide +kernel
theorem dX11_mark_79 : decode cX11_mark 79 = .ok (.invokevirtual 238, 3) := by decide +kernel
theorem dX11_mark_82 : decode cX11_mark 82 = .ok (.aload_n 0, 1) := by decide +kernel
theorem dX11_mark_83 : decode cX11_mark 83 = .ok (.invokevirtual 122, 3) := by decide +kernel
theorem dX11_mark_86 : decode cX11_mark 86 = .ok (.iconst 1, 1) := by decide +kernel
theorem dX11_mark_87 : decode cX11_mark 87 = .ok (.ireturn, 1) := by decide +kernel
set_option maxRecDepth 20000 in
theorem ggX11_judged_X2_mostAsked : GoodIn wsX11_judged wsX2_mostAsked := goodIn_r _ [13, 14, 15, 16, 17, 18, 19, 141, 142, 143, 144, 145, 146, 147, 148, 149, 150, 151, 152, 153] (by decide +kernel) (by decide +kernel)
set_option maxRecDepth 20000 in
theorem gX11_judged_X2_mostAsked : GoodIn wsX11_judged (wsV RX11 241 RX2 yX2_mostAsked wsX2_mostAsked) := goodIn_app (goodIn_of _ (by decide +kernel)) ggX11_judged_X2_mostAsked
set_option maxRecDepth 20000 in
theorem ggX11_judged_X8_begin : GoodIn wsX11_judged wsX8_begin := goodIn_r _ [24, 25, 26, 27, 28, 29, 30, 31, 32, 33, 34, 154, 155, 156, 157, 158, 159, 141, 142, 143, 144, 145, 146, 147, 148, 149, 150, 151, 152, 153] (by decide +kernel) (by decide +kernel)
set_option maxRecDepth 20000 in
theorem gX11_judged_X8_begin : GoodIn wsX11_judged (wsV RX11 113 RX8 yX8_begin wsX8_begin) := goodIn_app (goodIn_of _ (by decide +kernel)) ggX11_judged_X8_begin
set_option maxRecDepth 20000 in
theorem ggX11_judged_X1_perform : GoodIn wsX11_judged wsX1_perform := goodIn_r _ [39, 40, 41, 42, 43, 44, 45, 46, 47, 48, 49, 50, 51, 52, 53, 54, 55, 18, 56, 57, 58, 59, 23, 60, 29, 31, 61, 62, 63, 64, 65, 66, 67, 68, 69, 70, 71, 72, 73, 74, 75, 76, 77, 78, 79, 80, 81, 82, 83, 84, 85, 86, 87, 88, 89, 90, 91, 92, 93, 94, 95, 96, 97, 98, 99, 100, 101, 102, 27, 34, 103, 104, 105, 106, 107, 108, 109, 110, 111, 112, 137, 138, 139, 140, 154, 155, 156, 157, 158, 159, 160, 141, 142, 143, 144, 145, 146, 147, 148, 149, 150, 151, 152, 153, 161, 162, 163] (by decide +kernel) (by decide +kernel)
set_option maxRecDepth 20000 in
theorem gX11_judged_X1_perform : GoodIn wsX11_judged (wsV RX11 245 RX1 yX1_perform wsX1_perform) := goodIn_app (goodIn_of _ (by decide +kernel)) ggX11_judged_X1_perform
set_option maxRecDepth 20000 in
theorem ggX11_judged_X1_goesTo : GoodIn wsX11_judged wsX1_goesTo := goodIn_r _ [116, 42, 41, 137, 138, 139, 140] (by decide +kernel) (by decide +kernel)
set_option maxRecDepth 20000 in
theorem gX11_judged_X1_goesTo : GoodIn wsX11_judged (wsV RX11 249 RX1 yX1_goesTo wsX1_goesTo) := goodIn_app (goodIn_of _ (by decide +kernel)) ggX11_judged_X1_goesTo
set_option maxRecDepth 20000 in
theorem ggX11_judged_X11_sum : GoodIn wsX11_judged wsX11_sum := goodIn_r _ [120, 1, 121, 122, 123, 124, 125, 126, 127, 128, 129, 130, 131, 132, 133, 134, 135, 136, 141, 142, 143, 144, 145, 146, 147, 148, 149, 150, 151, 152, 153] (by decide +kernel) (by decide +kernel)
set_option maxRecDepth 20000 in
theorem gX11_judged_X11_sum : GoodIn wsX11_judged (wsV RX11 188 RX11 yX11_sum wsX11_sum) := goodIn_app (goodIn_of _ (by decide +kernel)) ggX11_judged_X11_sum
theorem dX11_judged_0 : decode cX11_judged 0 = .ok (.iconst (-1), 1) := by decide +kernel
theorem dX11_judged_1 : decode cX11_judged 1 = .ok (.istore_n 2, 1) := by decide +kernel
theorem dX11_judged_2 : decode cX11_judged 2 = .ok (.iconst (-1), 1) := by decide +kernel
theorem dX11_judged_3 : decode cX11_judged 3 = .ok (.istore_n 3, 1) := by decide +kernel
theorem dX11_judged_4 : decode cX11_judged 4 = .ok (.aload_n 0, 1) := by decide +kernel
theorem dX11_judged_5 : decode cX11_judged 5 = .ok (.getfield 19, 3) := by decide +kernel
theorem dX11_judged_8 : decode cX11_judged 8 = .ok (.invokevirtual 241, 3) := by decide +kernel
theorem dX11_judged_11 : decode cX11_judged 11 = .ok (.istore 4, 2) := by decide +kernel
theorem dX11_judged_13 : decode cX11_judged 13 = .ok (.aload_n 0, 1) := by decide +kernel
theorem dX11_judged_14 : decode cX11_judged 14 = .ok (.getfield 68, 3) := by decide +kernel
theorem dX11_judged_17 : decode cX11_judged 17 = .ok (.aload_n 0, 1) := by decide +kernel
theorem dX11_judged_18 : decode cX11_judged 18 = .ok (.getfield 19, 3) := by decide +kernel
theorem dX11_judged_21 : decode cX11_judged 21 = .ok (.invokevirtual 113, 3) := by decide +kernel
theorem dX11_judged_24 : decode cX11_judged 24 = .ok (.iconst 0, 1) := by decide +kernel
theorem dX11_judged_25 : decode cX11_judged 25 = .ok (.istore 5, 2) := by decide +kernel
theorem dX11_judged_27 : decode cX11_judged 27 = .ok (.iload 5, 2) := by decide +kernel
theorem dX11_judged_29 : decode cX11_judged 29 = .ok (.aload_n 0, 1) := by decide +kernel
theorem dX11_judged_30 : decode cX11_judged 30 = .ok (.getfield 36, 3) := by decide +kernel
theorem dX11_judged_33 : decode cX11_judged 33 = .ok (.getfield 116, 3) := by decide +kernel
theorem dX11_judged_36 : decode cX11_judged 36 = .ok (.if_icmp .ge 87, 3) := by decide +kernel
theorem dX11_judged_39 : decode cX11_judged 39 = .ok (.aload_n 0, 1) := by decide +kernel
theorem dX11_judged_40 : decode cX11_judged 40 = .ok (.getfield 36, 3) := by decide +kernel
theorem dX11_judged_43 : decode cX11_judged 43 = .ok (.iload 5, 2) := by decide +kernel
theorem dX11_judged_45 : decode cX11_judged 45 = .ok (.aload_n 0, 1) := by decide +kernel
theorem dX11_judged_46 : decode cX11_judged 46 = .ok (.getfield 48, 3) := by decide +kernel
theorem dX11_judged_49 : decode cX11_judged 49 = .ok (.aload_n 0, 1) := by decide +kernel
theorem dX11_judged_50 : decode cX11_judged 50 = .ok (.getfield 68, 3) := by decide +kernel
theorem dX11_judged_53 : decode cX11_judged 53 = .ok (.invokevirtual 245, 3) := by decide +kernel
theorem dX11_judged_56 : decode cX11_judged 56 = .ok (.ifCond .ne 18, 3) := by decide +kernel
theorem dX11_judged_59 : decode cX11_judged 59 = .ok (.iload_n 2, 1) := by decide +kernel
theorem dX11_judged_60 : decode cX11_judged 60 = .ok (.iconst (-1), 1) := by decide +kernel
theorem dX11_judged_61 : decode cX11_judged 61 = .ok (.if_icmp .ne 8, 3) := by decide +kernel
theorem dX11_judged_64 : decode cX11_judged 64 = .ok (.iload 5, 2) := by decide +kernel
theorem dX11_judged_66 : decode cX11_judged 66 = .ok (.goto 4, 3) := by decide +kernel
theorem dX11_judged_69 : decode cX11_judged 69 = .ok (.iload_n 2, 1) := by decide +kernel
theorem dX11_judged_70 : decode cX11_judged 70 = .ok (.istore_n 2, 1) := by decide +kernel
theorem dX11_judged_71 : decode cX11_judged 71 = .ok (.goto 46, 3) := by decide +kernel
theorem dX11_judged_74 : decode cX11_judged 74 = .ok (.iload_n 3, 1) := by decide +kernel
theorem dX11_judged_75 : decode cX11_judged 75 = .ok (.iconst (-1), 1) := by decide +kernel
theorem dX11_judged_76 : decode cX11_judged 76 = .ok (.if_icmp .ne 41, 3) := by decide +kernel
theorem dX11_judged_79 : decode cX11_judged 79 = .ok (.aload_n 0, 1) := by decide +kernel
theorem dX11_judged_80 : decode cX11_judged 80 = .ok (.getfield 36, 3) := by decide +kernel
theorem dX11_judged_83 : decode cX11_judged 83 = .ok (.iload 5, 2) := by decide +kernel
theorem dX11_judged_85 : decode cX11_judged 85 = .ok (.invokevirtual 249, 3) := by decide +kernel
theorem dX11_judged_88 : decode cX11_judged 88 = .ok (.iconst (-1), 1) := by decide +kernel
theorem dX11_judged_89 : decode cX11_judged 89 = .ok (.if_icmp .eq 28, 3) := by decide +kernel
theorem dX11_judged_92 : decode cX11_judged 92 = .ok (.aload_n 0, 1) := by decide +kernel
theorem dX11_judged_93 : decode cX11_judged 93 = .ok (.getfield 19, 3) := by decide +kernel
theorem dX11_judged_96 : decode cX11_judged 96 = .ok (.getfield 159, 3) := by decide +kernel
theorem dX11_judged_99 : decode cX11_judged 99 = .ok (.aload_n 0, 1) := by decide +kernel
theorem dX11_judged_100 : decode cX11_judged 100 = .ok (.getfield 36, 3) := by decide +kernel
theorem dX11_judged_103 : decode cX11_judged 103 = .ok (.iload 5, 2) := by decide +kernel
theorem dX11_judged_105 : decode cX11_judged 105 = .ok (.invokevirtual 249, 3) := by decide +kernel
theorem dX11_judged_108 : decode cX11_judged 108 = .ok (.iaload, 1) := by decide +kernel
theorem dX11_judged_109 : decode cX11_judged 109 = .ok (.iload 4, 2) := by decide +kernel
theorem dX11_judged_111 : decode cX11_judged 111 = .ok (.if_icmp .ne 6, 3) := by decide +kernel
theorem dX11_judged_114 : decode cX11_judged 114 = .ok (.iload 5, 2) := by decide +kernel
theorem dX11_judged_116 : decode cX11_judged 116 = .ok (.istore_n 3, 1) := by decide +kernel
theorem dX11_judged_117 : decode cX11_judged 117 = .ok (.iinc 5 1, 3) := by decide +kernel
theorem dX11_judged_120 : decode cX11_judged 120 = .ok (.goto (-93), 3) := by decide +kernel
theorem dX11_judged_123 : decode cX11_judged 123 = .ok (.iload_n 1, 1) := by decide +kernel
theorem dX11_judged_124 : decode cX11_judged 124 = .ok (.tableswitch 56 0 2 #[28, 30, 32], 28) := by decide +kernel
theorem dX11_judged_152 : decode cX11_judged 152 = .ok (.iload_n 2, 1) := by decide +kernel
theorem dX11_judged_153 : decode cX11_judged 153 = .ok (.ireturn, 1) := by decide +kernel
theorem dX11_judged_154 : decode cX11_judged 154 = .ok (.iload_n 3, 1) := by decide +kernel
theorem dX11_judged_155 : decode cX11_judged 155 = .ok (.ireturn, 1) := by decide +kernel
theorem dX11_judged_156 : decode cX11_judged 156 = .ok (.aload_n 0, 1) := by decide +kernel
theorem dX11_judged_157 : decode cX11_judged 157 = .ok (.aload_n 0, 1) := by decide +kernel
theorem dX11_judged_158 : decode cX11_judged 158 = .ok (.getfield 19, 3) := by decide +kernel
theorem dX11_judged_161 : decode cX11_judged 161 = .ok (.getfield 252, 3) := by decide +kernel
theorem dX11_judged_164 : decode cX11_judged 164 = .ok (.invokevirtual 188, 3) := by decide +kernel
theorem dX11_judged_167 : decode cX11_judged 167 = .ok (.aload_n 0, 1) := by decide +kernel
theorem dX11_judged_168 : decode cX11_judged 168 = .ok (.aload_n 0, 1) := by decide +kernel
theorem dX11_judged_169 : decode cX11_judged 169 = .ok (.getfield 68, 3) := by decide +kernel
theorem dX11_judged_172 : decode cX11_judged 172 = .ok (.getfield 150, 3) := by decide +kernel
theorem dX11_judged_175 : decode cX11_judged 175 = .ok (.invokevirtual 188, 3) := by decide +kernel
theorem dX11_judged_178 : decode cX11_judged 178 = .ok (.isub, 1) := by decide +kernel
theorem dX11_judged_179 : decode cX11_judged 179 = .ok (.ireturn, 1) := by decide +kernel
theorem dX11_judged_180 : decode cX11_judged 180 = .ok (.bipush (-2), 2) := by decide +kernel
theorem dX11_judged_182 : decode cX11_judged 182 = .ok (.ireturn, 1) := by decide +kernel
set_option maxRecDepth 20000 in
theorem ggX11_reach_X11_isPerson : GoodIn wsX11_reach wsX11_isPerson := goodIn_r _ [7, 8, 9, 72, 73, 74, 75, 76, 77, 78, 79, 80, 81, 82, 83, 84, 85, 86, 87, 88, 89, 90, 91, 92, 93, 94, 95, 96, 97, 98, 99] (by decide +kernel) (by decide +kernel)
set_option maxRecDepth 20000 in
theorem gX11_reach_X11_isPerson : GoodIn wsX11_reach (wsV RX11 133 RX11 yX11_isPerson wsX11_isPerson) := goodIn_app (goodIn_of _ (by decide +kernel)) ggX11_reach_X11_isPerson
set_option maxRecDepth 20000 in
theorem ggX11_reach_X10_reachOf : GoodIn wsX11_reach wsX10_reachOf := goodIn_r _ [14, 15, 16, 17, 18, 13, 19, 20, 21, 22, 23, 24, 25, 26, 27, 28, 29, 30, 31, 32, 33, 34, 35, 36, 37, 38, 39, 40, 41, 42, 43, 44, 45, 46, 47, 48, 49, 50, 51, 52, 53, 54, 55, 56, 57, 58, 59, 60, 61, 62, 63, 64, 65, 66, 67, 68, 69, 70, 6, 71, 100, 101, 102, 103, 104, 105, 106, 107, 108, 109, 110, 111, 112, 87, 88, 89, 90, 91, 92, 93, 94, 95, 96, 97, 98, 99, 113, 114, 115, 116] (by decide +kernel) (by decide +kernel)
set_option maxRecDepth 20000 in
theorem gX11_reach_X10_reachOf : GoodIn wsX11_reach (wsV RX11 253 RX10 yX10_reachOf wsX10_reachOf) := goodIn_app (goodIn_of _ (by decide +kernel)) ggX11_reach_X10_reachOf
theorem dX11_reach_0 : decode cX11_reach 0 = .ok (.aload_n 0, 1) := by decide +kernel
theorem dX11_reach_1 : decode cX11_reach 1 = .ok (.iload_n 1, 1) := by decide +kernel
theorem dX11_reach_2 : decode cX11_reach 2 = .ok (.invokevirtual 133, 3) := by decide +kernel
theorem dX11_reach_5 : decode cX11_reach 5 = .ok (.ifCond .eq 19, 3) := by decide +kernel
theorem dX11_reach_8 : decode cX11_reach 8 = .ok (.aload_n 0, 1) := by decide +kernel
theorem dX11_reach_9 : decode cX11_reach 9 = .ok (.getfield 57, 3) := by decide +kernel
theorem dX11_reach_12 : decode cX11_reach 12 = .ok (.aload_n 0, 1) := by decide +kernel
theorem dX11_reach_13 : decode cX11_reach 13 = .ok (.getfield 64, 3) := by decide +kernel
theorem dX11_reach_16 : decode cX11_reach 16 = .ok (.iload_n 1, 1) := by decide +kernel
theorem dX11_reach_17 : decode cX11_reach 17 = .ok (.iconst 0, 1) := by decide +kernel
theorem dX11_reach_18 : decode cX11_reach 18 = .ok (.invokevirtual 253, 3) := by decide +kernel
theorem dX11_reach_21 : decode cX11_reach 21 = .ok (.goto 4, 3) := by decide +kernel
theorem dX11_reach_24 : decode cX11_reach 24 = .ok (.iconst (-1), 1) := by decide +kernel
theorem dX11_reach_25 : decode cX11_reach 25 = .ok (.ireturn, 1) := by decide +kernel
set_option maxRecDepth 20000 in
theorem ggX11_frontiers_X11_isPerson : GoodIn wsX11_frontiers wsX11_isPerson := goodIn_r _ [8, 9, 10, 74, 75, 76, 77, 78, 79, 80, 81, 82, 83, 84, 85, 86, 87, 88, 95, 96, 97, 98, 99, 100, 101, 102, 103, 104, 105, 106, 107] (by decide +kernel) (by decide +kernel)
set_option maxRecDepth 20000 in
theorem gX11_frontiers_X11_isPerson : GoodIn wsX11_frontiers (wsV RX11 133 RX11 yX11_isPerson wsX11_isPerson) := goodIn_app (goodIn_of _ (by decide +kernel)) ggX11_frontiers_X11_isPerson
set_option maxRecDepth 20000 in
theorem ggX11_frontiers_X11_isTown : GoodIn wsX11_frontiers wsX11_isTown := goodIn_r _ [14, 9, 15, 74, 75, 76, 77, 78, 79, 80, 81, 82, 83, 84, 85, 86, 87, 88, 95, 96, 97, 98, 99, 100, 101, 102, 103, 104, 105, 106, 107] (by decide +kernel) (by decide +kernel)
set_option maxRecDepth 20000 in
theorem gX11_frontiers_X11_isTown : GoodIn wsX11_frontiers (wsV RX11 156 RX11 yX11_isTown wsX11_isTown) := goodIn_app (goodIn_of _ (by decide +kernel)) ggX11_frontiers_X11_isTown
set_option maxRecDepth 20000 in
theorem ggX11_frontiers_X10_lay : GoodIn wsX11_frontiers wsX10_lay := goodIn_r _ [20, 21, 22, 23, 24, 25, 26, 27, 28, 29, 30, 31, 32, 33, 34, 35, 36, 37, 38, 39, 40, 41, 42, 43, 44, 45, 46, 47, 48, 49, 50, 51, 52, 53, 54, 55, 56, 57, 58, 59, 60, 61, 62, 63, 108, 109, 110, 111, 112, 113, 114, 95, 96, 97, 98, 99, 100, 101, 102, 103, 104, 105, 106, 107, 89, 90, 91, 92, 93, 94, 115, 116, 117, 118] (by decide +kernel) (by decide +kernel)
set_option maxRecDepth 20000 in
theorem gX11_frontiers_X10_lay : GoodIn wsX11_frontiers (wsV RX11 257 RX10 yX10_lay wsX10_lay) := goodIn_app (goodIn_of _ (by decide +kernel)) ggX11_frontiers_X10_lay
set_option maxRecDepth 20000 in
theorem ggX11_frontiers_X10_distance : GoodIn wsX11_frontiers wsX10_distance := goodIn_r _ [67, 22, 25, 68, 7, 69, 70, 71, 72, 19, 73, 21, 108, 109, 110, 111, 112, 113, 114, 95, 96, 97, 98, 99, 100, 101, 102, 103, 104, 105, 106, 107] (by decide +kernel) (by decide +kernel)
set_option maxRecDepth 20000 in
theorem gX11_frontiers_X10_distance : GoodIn wsX11_frontiers (wsV RX11 259 RX10 yX10_distance wsX10_distance) := goodIn_app (goodIn_of _ (by decide +kernel)) ggX11_frontiers_X10_distance
theorem dX11_frontiers_0 : decode cX11_frontiers 0 = .ok (.aload_n 0, 1) := by decide +kernel
theorem dX11_frontiers_1 : decode cX11_frontiers 1 = .ok (.iload_n 1, 1) := by decide +kernel
theorem dX11_frontiers_2 : decode cX11_frontiers 2 = .ok (.invokevirtual 133, 3) := by decide +kernel
theorem dX11_frontiers_5 : decode cX11_frontiers 5 = .ok (.ifCond .eq 11, 3) := by decide +kernel
theorem dX11_frontiers_8 : decode cX11_frontiers 8 = .ok (.aload_n 0, 1) := by decide +kernel
theorem dX11_frontiers_9 : decode cX11_frontiers 9 = .ok (.iload_n 2, 1) := by decide +kernel
theorem dX11_frontiers_10 : decode cX11_frontiers 10 = .ok (.invokevirtual 156, 3) := by decide +kernel
theorem dX11_frontiers_13 : decode cX11_frontiers 13 = .ok (.ifCond .ne 5, 3) := by decide +kernel
theorem dX11_frontiers_16 : decode cX11_frontiers 16 = .ok (.iconst (-1), 1) := by decide +kernel
theorem dX11_frontiers_17 : decode cX11_frontiers 17 = .ok (.ireturn, 1) := by decide +kernel
theorem dX11_frontiers_18 : decode cX11_frontiers 18 = .ok (.aload_n 0, 1) := by decide +kernel
theorem dX11_frontiers_19 : decode cX11_frontiers 19 = .ok (.getfield 57, 3) := by decide +kernel
theorem dX11_frontiers_22 : decode cX11_frontiers 22 = .ok (.aload_n 0, 1) := by decide +kernel
theorem dX11_frontiers_23 : decode cX11_frontiers 23 = .ok (.getfield 64, 3) := by decide +kernel
theorem dX11_frontiers_26 : decode cX11_frontiers 26 = .ok (.iload_n 1, 1) := by decide +kernel
theorem dX11_frontiers_27 : decode cX11_frontiers 27 = .ok (.iconst 0, 1) := by decide +kernel
theorem dX11_frontiers_28 : decode cX11_frontiers 28 = .ok (.invokevirtual 257, 3) := by decide +kernel
theorem dX11_frontiers_31 : decode cX11_frontiers 31 = .ok (.aload_n 0, 1) := by decide +kernel
theorem dX11_frontiers_32 : decode cX11_frontiers 32 = .ok (.getfield 57, 3) := by decide +kernel
theorem dX11_frontiers_35 : decode cX11_frontiers 35 = .ok (.aload_n 0, 1) := by decide +kernel
theorem dX11_frontiers_36 : decode cX11_frontiers 36 = .ok (.getfield 64, 3) := by decide +kernel
theorem dX11_frontiers_39 : decode cX11_frontiers 39 = .ok (.getfield 141, 3) := by decide +kernel
theorem dX11_frontiers_42 : decode cX11_frontiers 42 = .ok (.iload_n 1, 1) := by decide +kernel
theorem dX11_frontiers_43 : decode cX11_frontiers 43 = .ok (.iaload, 1) := by decide +kernel
theorem dX11_frontiers_44 : decode cX11_frontiers 44 = .ok (.iload_n 2, 1) := by decide +kernel
theorem dX11_frontiers_45 : decode cX11_frontiers 45 = .ok (.invokevirtual 259, 3) := by decide +kernel
theorem dX11_frontiers_48 : decode cX11_frontiers 48 = .ok (.ireturn, 1) := by decide +kernel
set_option maxRecDepth 20000 in
theorem ggX11_guide_X11_isPerson : GoodIn wsX11_guide wsX11_isPerson := goodIn_r _ [8, 9, 10, 78, 79, 80, 81, 82, 83, 84, 85, 86, 87, 88, 89, 90, 91, 92, 99, 100, 101, 102, 103, 104, 105, 106, 107, 108, 109, 110, 111] (by decide +kernel) (by decide +kernel)
set_option maxRecDepth 20000 in
theorem gX11_guide_X11_isPerson : GoodIn wsX11_guide (wsV RX11 133 RX11 yX11_isPerson wsX11_isPerson) := goodIn_app (goodIn_of _ (by decide +kernel)) ggX11_guide_X11_isPerson
set_option maxRecDepth 20000 in
theorem ggX11_guide_X11_isTown : GoodIn wsX11_guide wsX11_isTown := goodIn_r _ [14, 9, 15, 78, 79, 80, 81, 82, 83, 84, 85, 86, 87, 88, 89, 90, 91, 92, 99, 100, 101, 102, 103, 104, 105, 106, 107, 108, 109, 110, 111] (by decide +kernel) (by decide +kernel)
set_option maxRecDepth 20000 in
theorem gX11_guide_X11_isTown : GoodIn wsX11_guide (wsV RX11 156 RX11 yX11_isTown wsX11_isTown) := goodIn_app (goodIn_of _ (by decide +kernel)) ggX11_guide_X11_isTown
set_option maxRecDepth 20000 in
theorem ggX11_guide_X10_lay : GoodIn wsX11_guide wsX10_lay := goodIn_r _ [20, 21, 22, 23, 24, 25, 26, 27, 28, 29, 30, 31, 32, 33, 34, 35, 36, 37, 38, 39, 40, 41, 42, 43, 44, 45, 46, 47, 48, 49, 50, 51, 52, 53, 54, 55, 56, 57, 58, 59, 60, 61, 62, 63, 112, 113, 114, 115, 116, 117, 118, 99, 100, 101, 102, 103, 104, 105, 106, 107, 108, 109, 110, 111, 93, 94, 95, 96, 97, 98, 119, 120, 121, 122] (by decide +kernel) (by decide +kernel)
set_option maxRecDepth 20000 in
theorem gX11_guide_X10_lay : GoodIn wsX11_guide (wsV RX11 257 RX10 yX10_lay wsX10_lay) := goodIn_app (goodIn_of _ (by decide +kernel)) ggX11_guide_X10_lay
set_option maxRecDepth 20000 in
theorem ggX11_guide_X10_firstStep : GoodIn wsX11_guide wsX10_firstStep := goodIn_r _ [67, 22, 25, 21, 68, 69, 70, 19, 71, 72, 7, 73, 74, 75, 76, 77, 112, 113, 114, 115, 116, 117, 118, 99, 100, 101, 102, 103, 104, 105, 106, 107, 108, 109, 110, 111] (by decide +kernel) (by decide +kernel)
set_option maxRecDepth 20000 in
theorem gX11_guide_X10_firstStep : GoodIn wsX11_guide (wsV RX11 262 RX10 yX10_firstStep wsX10_firstStep) := goodIn_app (goodIn_of _ (by decide +kernel)) ggX11_guide_X10_firstStep
theorem dX11_guide_0 : decode cX11_guide 0 = .ok (.aload_n 0, 1) := by decide +kernel
theorem dX11_guide_1 : decode cX11_guide 1 = .ok (.iload_n 1, 1) := by decide +kernel
theorem dX11_guide_2 : decode cX11_guide 2 = .ok (.invokevirtual 133, 3) := by decide +kernel
theorem dX11_guide_5 : decode cX11_guide 5 = .ok (.ifCond .eq 11, 3) := by decide +kernel
theorem dX11_guide_8 : decode cX11_guide 8 = .ok (.aload_n 0, 1) := by decide +kernel
theorem dX11_guide_9 : decode cX11_guide 9 = .ok (.iload_n 2, 1) := by decide +kernel
theorem dX11_guide_10 : decode cX11_guide 10 = .ok (.invokevirtual 156, 3) := by decide +kernel
theorem dX11_guide_13 : decode cX11_guide 13 = .ok (.ifCond .ne 5, 3) := by decide +kernel
theorem dX11_guide_16 : decode cX11_guide 16 = .ok (.iconst (-1), 1) := by decide +kernel
theorem dX11_guide_17 : decode cX11_guide 17 = .ok (.ireturn, 1) := by decide +kernel
theorem dX11_guide_18 : decode cX11_guide 18 = .ok (.aload_n 0, 1) := by decide +kernel
theorem dX11_guide_19 : decode cX11_guide 19 = .ok (.getfield 57, 3) := by decide +kernel
theorem dX11_guide_22 : decode cX11_guide 22 = .ok (.aload_n 0, 1) := by decide +kernel
theorem dX11_guide_23 : decode cX11_guide 23 = .ok (.getfield 64, 3) := by decide +kernel
theorem dX11_guide_26 : decode cX11_guide 26 = .ok (.iload_n 1, 1) := by decide +kernel
theorem dX11_guide_27 : decode cX11_guide 27 = .ok (.iconst 0, 1) := by decide +kernel
theorem dX11_guide_28 : decode cX11_guide 28 = .ok (.invokevirtual 257, 3) := by decide +kernel
theorem dX11_guide_31 : decode cX11_guide 31 = .ok (.aload_n 0, 1) := by decide +kernel
theorem dX11_guide_32 : decode cX11_guide 32 = .ok (.getfield 57, 3) := by decide +kernel
theorem dX11_guide_35 : decode cX11_guide 35 = .ok (.aload_n 0, 1) := by decide +kernel
theorem dX11_guide_36 : decode cX11_guide 36 = .ok (.getfield 64, 3) := by decide +kernel
theorem dX11_guide_39 : decode cX11_guide 39 = .ok (.getfield 141, 3) := by decide +kernel
theorem dX11_guide_42 : decode cX11_guide 42 = .ok (.iload_n 1, 1) := by decide +kernel
theorem dX11_guide_43 : decode cX11_guide 43 = .ok (.iaload, 1) := by decide +kernel
theorem dX11_guide_44 : decode cX11_guide 44 = .ok (.iload_n 2, 1) := by decide +kernel
theorem dX11_guide_45 : decode cX11_guide 45 = .ok (.invokevirtual 262, 3) := by decide +kernel
theorem dX11_guide_48 : decode cX11_guide 48 = .ok (.ireturn, 1) := by decide +kernel
set_option maxRecDepth 20000 in
theorem ggX11_when_X11_isPerson : GoodIn wsX11_when wsX11_isPerson := goodIn_r _ [8, 9, 10, 110, 111, 112, 113, 114, 115, 116, 117, 118, 119, 120, 121, 122, 123, 124, 132, 133, 134, 135, 136, 137, 138, 139, 140, 141, 142, 143, 144] (by decide +kernel) (by decide +kernel)
set_option maxRecDepth 20000 in
theorem gX11_when_X11_isPerson : GoodIn wsX11_when (wsV RX11 133 RX11 yX11_isPerson wsX11_isPerson) := goodIn_app (goodIn_of _ (by decide +kernel)) ggX11_when_X11_isPerson
set_option maxRecDepth 20000 in
theorem ggX11_when_X11_isTown : GoodIn wsX11_when wsX11_isTown := goodIn_r _ [14, 9, 15, 110, 111, 112, 113, 114, 115, 116, 117, 118, 119, 120, 121, 122, 123, 124, 132, 133, 134, 135, 136, 137, 138, 139, 140, 141, 142, 143, 144] (by decide +kernel) (by decide +kernel)
set_option maxRecDepth 20000 in
theorem gX11_when_X11_isTown : GoodIn wsX11_when (wsV RX11 156 RX11 yX11_isTown wsX11_isTown) := goodIn_app (goodIn_of _ (by decide +kernel)) ggX11_when_X11_isTown
set_option maxRecDepth 20000 in
theorem ggX11_when_X10_findSoonest : GoodIn wsX11_when wsX10_findSoonest := goodIn_r _ [20, 21, 22, 23, 24, 25, 26, 27, 28, 29, 19, 30, 31, 32, 33, 34, 35, 36, 37, 38, 39, 40, 41, 42, 43, 44, 45, 7, 46, 47, 48, 49, 50, 51, 52, 53, 54, 55, 56, 57, 58, 59, 60, 61, 62, 63, 64, 65, 66, 67, 68, 69, 70, 71, 72, 73, 74, 75, 76, 77, 78, 79, 80, 81, 82, 83, 84, 85, 86, 87, 88, 89, 90, 91, 92, 93, 94, 95, 96, 97, 98, 99, 100, 101, 102, 103, 104, 105, 106, 107, 108, 109, 145, 146, 147, 148, 149, 150, 125, 126, 127, 128, 129, 130, 131, 132, 133, 134, 135, 136, 137, 138, 139, 140, 141, 142, 143, 144, 151, 152, 153, 154] (by decide +kernel) (by decide +kernel)
set_option maxRecDepth 20000 in
theorem gX11_when_X10_findSoonest : GoodIn wsX11_when (wsV RX11 265 RX10 yX10_findSoonest wsX10_findSoonest) := goodIn_app (goodIn_of _ (by decide +kernel)) ggX11_when_X10_findSoonest
theorem dX11_when_0 : decode cX11_when 0 = .ok (.aload_n 0, 1) := by decide +kernel
theorem dX11_when_1 : decode cX11_when 1 = .ok (.iload_n 1, 1) := by decide +kernel
theorem dX11_when_2 : decode cX11_when 2 = .ok (.invokevirtual 133, 3) := by decide +kernel
theorem dX11_when_5 : decode cX11_when 5 = .ok (.ifCond .eq 11, 3) := by decide +kernel
theorem dX11_when_8 : decode cX11_when 8 = .ok (.aload_n 0, 1) := by decide +kernel
theorem dX11_when_9 : decode cX11_when 9 = .ok (.iload_n 2, 1) := by decide +kernel
theorem dX11_when_10 : decode cX11_when 10 = .ok (.invokevirtual 156, 3) := by decide +kernel
theorem dX11_when_13 : decode cX11_when 13 = .ok (.ifCond .ne 5, 3) := by decide +kernel
theorem dX11_when_16 : decode cX11_when 16 = .ok (.iconst (-1), 1) := by decide +kernel
theorem dX11_when_17 : decode cX11_when 17 = .ok (.ireturn, 1) := by decide +kernel
theorem dX11_when_18 : decode cX11_when 18 = .ok (.aload_n 0, 1) := by decide +kernel
theorem dX11_when_19 : decode cX11_when 19 = .ok (.getfield 57, 3) := by decide +kernel
theorem dX11_when_22 : decode cX11_when 22 = .ok (.aload_n 0, 1) := by decide +kernel
theorem dX11_when_23 : decode cX11_when 23 = .ok (.getfield 64, 3) := by decide +kernel
theorem dX11_when_26 : decode cX11_when 26 = .ok (.iload_n 1, 1) := by decide +kernel
theorem dX11_when_27 : decode cX11_when 27 = .ok (.iconst 1, 1) := by decide +kernel
theorem dX11_when_28 : decode cX11_when 28 = .ok (.iload_n 2, 1) := by decide +kernel
theorem dX11_when_29 : decode cX11_when 29 = .ok (.ishl, 1) := by decide +kernel
theorem dX11_when_30 : decode cX11_when 30 = .ok (.invokevirtual 265, 3) := by decide +kernel
theorem dX11_when_33 : decode cX11_when 33 = .ok (.aload_n 0, 1) := by decide +kernel
theorem dX11_when_34 : decode cX11_when 34 = .ok (.getfield 57, 3) := by decide +kernel
theorem dX11_when_37 : decode cX11_when 37 = .ok (.getfield 268, 3) := by decide +kernel
theorem dX11_when_40 : decode cX11_when 40 = .ok (.iload_n 2, 1) := by decide +kernel
theorem dX11_when_41 : decode cX11_when 41 = .ok (.iaload, 1) := by decide +kernel
theorem dX11_when_42 : decode cX11_when 42 = .ok (.ireturn, 1) := by decide +kernel
set_option maxRecDepth 20000 in
theorem ggX11_round_X11_isPerson : GoodIn wsX11_round wsX11_isPerson := goodIn_r _ [7, 8, 9, 115, 116, 117, 118, 119, 120, 121, 122, 123, 124, 125, 126, 127, 128, 129, 130, 131, 132, 133, 134, 135, 136, 137, 138, 139, 140, 141, 142] (by decide +kernel) (by decide +kernel)
set_option maxRecDepth 20000 in
theorem gX11_round_X11_isPerson : GoodIn wsX11_round (wsV RX11 133 RX11 yX11_isPerson wsX11_isPerson) := goodIn_app (goodIn_of _ (by decide +kernel)) ggX11_round_X11_isPerson
set_option maxRecDepth 20000 in
theorem ggX11_round_X10_soonestRound : GoodIn wsX11_round wsX10_soonestRound := goodIn_r _ [14, 15, 16, 17, 18, 19, 20, 21, 22, 23, 24, 25, 26, 27, 28, 29, 13, 30, 31, 32, 33, 34, 35, 36, 37, 38, 39, 40, 41, 42, 43, 44, 45, 46, 6, 47, 48, 49, 50, 51, 52, 53, 54, 55, 56, 57, 58, 59, 60, 61, 62, 63, 64, 65, 66, 67, 68, 69, 70, 71, 72, 73, 74, 75, 76, 77, 78, 79, 80, 81, 82, 83, 84, 85, 86, 87, 88, 89, 90, 91, 92, 93, 94, 95, 96, 97, 98, 99, 100, 101, 102, 103, 104, 105, 106, 107, 108, 109, 110, 111, 112, 113, 114, 143, 144, 145, 146, 147, 148, 149, 150, 151, 152, 153, 154, 155, 130, 131, 132, 133, 134, 135, 136, 137, 138, 139, 140, 141, 142, 156, 157, 158, 159] (by decide +kernel) (by decide +kernel)
set_option maxRecDepth 20000 in
theorem gX11_round_X10_soonestRound : GoodIn wsX11_round (wsV RX11 271 RX10 yX10_soonestRound wsX10_soonestRound) := goodIn_app (goodIn_of _ (by decide +kernel)) ggX11_round_X10_soonestRound
theorem dX11_round_0 : decode cX11_round 0 = .ok (.aload_n 0, 1) := by decide +kernel
theorem dX11_round_1 : decode cX11_round 1 = .ok (.iload_n 1, 1) := by decide +kernel
theorem dX11_round_2 : decode cX11_round 2 = .ok (.invokevirtual 133, 3) := by decide +kernel
theorem dX11_round_5 : decode cX11_round 5 = .ok (.ifCond .eq 18, 3) := by decide +kernel
theorem dX11_round_8 : decode cX11_round 8 = .ok (.aload_n 0, 1) := by decide +kernel
theorem dX11_round_9 : decode cX11_round 9 = .ok (.getfield 57, 3) := by decide +kernel
theorem dX11_round_12 : decode cX11_round 12 = .ok (.aload_n 0, 1) := by decide +kernel
theorem dX11_round_13 : decode cX11_round 13 = .ok (.getfield 64, 3) := by decide +kernel
theorem dX11_round_16 : decode cX11_round 16 = .ok (.iload_n 1, 1) := by decide +kernel
theorem dX11_round_17 : decode cX11_round 17 = .ok (.invokevirtual 271, 3) := by decide +kernel
theorem dX11_round_20 : decode cX11_round 20 = .ok (.goto 4, 3) := by decide +kernel
theorem dX11_round_23 : decode cX11_round 23 = .ok (.iconst (-1), 1) := by decide +kernel
theorem dX11_round_24 : decode cX11_round 24 = .ok (.ireturn, 1) := by decide +kernel
set_option maxRecDepth 20000 in
theorem ggX11_trapped_X10_lay : GoodIn wsX11_trapped wsX10_lay := goodIn_r _ [11, 12, 13, 14, 15, 16, 17, 18, 19, 20, 21, 22, 23, 24, 25, 26, 27, 28, 29, 30, 31, 32, 33, 34, 35, 36, 37, 38, 39, 40, 41, 42, 43, 44, 45, 46, 47, 48, 49, 50, 51, 52, 53, 54, 83, 84, 85, 86, 87, 88, 89, 70, 71, 72, 73, 74, 75, 76, 77, 78, 79, 80, 81, 82, 90, 91, 92, 93, 94, 95, 96, 97, 98, 99] (by decide +kernel) (by decide +kernel)
set_option maxRecDepth 20000 in
theorem gX11_trapped_X10_lay : GoodIn wsX11_trapped (wsV RX11 257 RX10 yX10_lay wsX10_lay) := goodIn_app (goodIn_of _ (by decide +kernel)) ggX11_trapped_X10_lay
theorem dX11_trapped_0 : decode cX11_trapped 0 = .ok (.iconst 0, 1) := by decide +kernel
theorem dX11_trapped_1 : decode cX11_trapped 1 = .ok (.istore_n 1, 1) := by decide +kernel
theorem dX11_trapped_2 : decode cX11_trapped 2 = .ok (.iconst 0, 1) := by decide +kernel
theorem dX11_trapped_3 : decode cX11_trapped 3 = .ok (.istore_n 2, 1) := by decide +kernel
theorem dX11_trapped_4 : decode cX11_trapped 4 = .ok (.iload_n 2, 1) := by decide +kernel
theorem dX11_trapped_5 : decode cX11_trapped 5 = .ok (.aload_n 0, 1) := by decide +kernel
theorem dX11_trapped_6 : decode cX11_trapped 6 = .ok (.getfield 19, 3) := by decide +kernel
theorem dX11_trapped_9 : decode cX11_trapped 9 = .ok (.getfield 172, 3) := by decide +kernel
theorem dX11_trapped_12 : decode cX11_trapped 12 = .ok (.if_icmp .ge 48, 3) := by decide +kernel
theorem dX11_trapped_15 : decode cX11_trapped 15 = .ok (.aload_n 0, 1) := by decide +kernel
theorem dX11_trapped_16 : decode cX11_trapped 16 = .ok (.getfield 57, 3) := by decide +kernel
theorem dX11_trapped_19 : decode cX11_trapped 19 = .ok (.aload_n 0, 1) := by decide +kernel
theorem dX11_trapped_20 : decode cX11_trapped 20 = .ok (.getfield 64, 3) := by decide +kernel
theorem dX11_trapped_23 : decode cX11_trapped 23 = .ok (.iload_n 2, 1) := by decide +kernel
theorem dX11_trapped_24 : decode cX11_trapped 24 = .ok (.iconst 0, 1) := by decide +kernel
theorem dX11_trapped_25 : decode cX11_trapped 25 = .ok (.invokevirtual 257, 3) := by decide +kernel
theorem dX11_trapped_28 : decode cX11_trapped 28 = .ok (.aload_n 0, 1) := by decide +kernel
theorem dX11_trapped_29 : decode cX11_trapped 29 = .ok (.getfield 57, 3) := by decide +kernel
theorem dX11_trapped_32 : decode cX11_trapped 32 = .ok (.getfield 274, 3) := by decide +kernel
theorem dX11_trapped_35 : decode cX11_trapped 35 = .ok (.aload_n 0, 1) := by decide +kernel
theorem dX11_trapped_36 : decode cX11_trapped 36 = .ok (.getfield 64, 3) := by decide +kernel
theorem dX11_trapped_39 : decode cX11_trapped 39 = .ok (.getfield 141, 3) := by decide +kernel
theorem dX11_trapped_42 : decode cX11_trapped 42 = .ok (.iload_n 2, 1) := by decide +kernel
theorem dX11_trapped_43 : decode cX11_trapped 43 = .ok (.iaload, 1) := by decide +kernel
theorem dX11_trapped_44 : decode cX11_trapped 44 = .ok (.iaload, 1) := by decide +kernel
theorem dX11_trapped_45 : decode cX11_trapped 45 = .ok (.ifCond .ne 9, 3) := by decide +kernel
theorem dX11_trapped_48 : decode cX11_trapped 48 = .ok (.iload_n 1, 1) := by decide +kernel
theorem dX11_trapped_49 : decode cX11_trapped 49 = .ok (.iconst 1, 1) := by decide +kernel
theorem dX11_trapped_50 : decode cX11_trapped 50 = .ok (.iload_n 2, 1) := by decide +kernel
theorem dX11_trapped_51 : decode cX11_trapped 51 = .ok (.ishl, 1) := by decide +kernel
theorem dX11_trapped_52 : decode cX11_trapped 52 = .ok (.ior, 1) := by decide +kernel
theorem dX11_trapped_53 : decode cX11_trapped 53 = .ok (.istore_n 1, 1) := by decide +kernel
theorem dX11_trapped_54 : decode cX11_trapped 54 = .ok (.iinc 2 1, 3) := by decide +kernel
theorem dX11_trapped_57 : decode cX11_trapped 57 = .ok (.goto (-53), 3) := by decide +kernel
theorem dX11_trapped_60 : decode cX11_trapped 60 = .ok (.iload_n 1, 1) := by decide +kernel
theorem dX11_trapped_61 : decode cX11_trapped 61 = .ok (.ireturn, 1) := by decide +kernel
set_option maxRecDepth 20000 in
theorem ggX11_shaven_X11_isPerson : GoodIn wsX11_shaven wsX11_isPerson := goodIn_r _ [8, 9, 10, 92, 93, 94, 95, 96, 97, 98, 99, 100, 101, 102, 103, 104, 105, 106, 107, 108, 109, 110, 111, 112, 113, 114, 115, 116, 117, 118, 119] (by decide +kernel) (by decide +kernel)
set_option maxRecDepth 20000 in
theorem gX11_shaven_X11_isPerson : GoodIn wsX11_shaven (wsV RX11 133 RX11 yX11_isPerson wsX11_isPerson) := goodIn_app (goodIn_of _ (by decide +kernel)) ggX11_shaven_X11_isPerson
set_option maxRecDepth 20000 in
theorem ggX11_shaven_X8_copy : GoodIn wsX11_shaven wsX8_copy := goodIn_r _ [15, 16, 17, 18, 19, 20, 21, 22, 23, 24, 25, 120, 121, 122, 123, 124, 125] (by decide +kernel) (by decide +kernel)
set_option maxRecDepth 20000 in
theorem gX11_shaven_X8_copy : GoodIn wsX11_shaven (wsV RX11 221 RX8 yX8_copy wsX8_copy) := goodIn_app (goodIn_of _ (by decide +kernel)) ggX11_shaven_X8_copy
set_option maxRecDepth 20000 in
theorem ggX11_shaven_X8_loseBeard : GoodIn wsX11_shaven wsX8_loseBeard := goodIn_r _ [29, 22, 23, 120, 121, 122, 123, 124, 125] (by decide +kernel) (by decide +kernel)
set_option maxRecDepth 20000 in
theorem gX11_shaven_X8_loseBeard : GoodIn wsX11_shaven (wsV RX11 213 RX8 yX8_loseBeard wsX8_loseBeard) := goodIn_app (goodIn_of _ (by decide +kernel)) ggX11_shaven_X8_loseBeard
set_option maxRecDepth 20000 in
theorem ggX11_shaven_X10_reachOf : GoodIn wsX11_shaven wsX10_reachOf := goodIn_r _ [34, 35, 36, 37, 38, 33, 39, 40, 41, 42, 43, 44, 45, 46, 47, 48, 49, 50, 51, 52, 53, 54, 55, 56, 57, 58, 59, 60, 61, 62, 63, 64, 65, 66, 67, 68, 69, 70, 71, 72, 73, 74, 75, 76, 77, 78, 79, 80, 81, 82, 83, 84, 85, 86, 87, 88, 89, 90, 7, 91, 120, 121, 122, 123, 124, 125, 126, 127, 128, 129, 130, 131, 132, 107, 108, 109, 110, 111, 112, 113, 114, 115, 116, 117, 118, 119, 133, 134, 135, 136] (by decide +kernel) (by decide +kernel)
set_option maxRecDepth 20000 in
theorem gX11_shaven_X10_reachOf : GoodIn wsX11_shaven (wsV RX11 253 RX10 yX10_reachOf wsX10_reachOf) := goodIn_app (goodIn_of _ (by decide +kernel)) ggX11_shaven_X10_reachOf
theorem dX11_shaven_0 : decode cX11_shaven 0 = .ok (.aload_n 0, 1) := by decide +kernel
theorem dX11_shaven_1 : decode cX11_shaven 1 = .ok (.iload_n 1, 1) := by decide +kernel
theorem dX11_shaven_2 : decode cX11_shaven 2 = .ok (.invokevirtual 133, 3) := by decide +kernel
theorem dX11_shaven_5 : decode cX11_shaven 5 = .ok (.ifCond .ne 5, 3) := by decide +kernel
theorem dX11_shaven_8 : decode cX11_shaven 8 = .ok (.iconst (-1), 1) := by decide +kernel
theorem dX11_shaven_9 : decode cX11_shaven 9 = .ok (.ireturn, 1) := by decide +kernel
theorem dX11_shaven_10 : decode cX11_shaven 10 = .ok (.aload_n 0, 1) := by decide +kernel
theorem dX11_shaven_11 : decode cX11_shaven 11 = .ok (.getfield 68, 3) := by decide +kernel
theorem dX11_shaven_14 : decode cX11_shaven 14 = .ok (.aload_n 0, 1) := by decide +kernel
theorem dX11_shaven_15 : decode cX11_shaven 15 = .ok (.getfield 64, 3) := by decide +kernel
theorem dX11_shaven_18 : decode cX11_shaven 18 = .ok (.invokevirtual 221, 3) := by decide +kernel
theorem dX11_shaven_21 : decode cX11_shaven 21 = .ok (.aload_n 0, 1) := by decide +kernel
theorem dX11_shaven_22 : decode cX11_shaven 22 = .ok (.getfield 68, 3) := by decide +kernel
theorem dX11_shaven_25 : decode cX11_shaven 25 = .ok (.iload_n 1, 1) := by decide +kernel
theorem dX11_shaven_26 : decode cX11_shaven 26 = .ok (.invokevirtual 213, 3) := by decide +kernel
theorem dX11_shaven_29 : decode cX11_shaven 29 = .ok (.aload_n 0, 1) := by decide +kernel
theorem dX11_shaven_30 : decode cX11_shaven 30 = .ok (.getfield 57, 3) := by decide +kernel
theorem dX11_shaven_33 : decode cX11_shaven 33 = .ok (.aload_n 0, 1) := by decide +kernel
theorem dX11_shaven_34 : decode cX11_shaven 34 = .ok (.getfield 68, 3) := by decide +kernel
theorem dX11_shaven_37 : decode cX11_shaven 37 = .ok (.iload_n 1, 1) := by decide +kernel
theorem dX11_shaven_38 : decode cX11_shaven 38 = .ok (.iconst 0, 1) := by decide +kernel
theorem dX11_shaven_39 : decode cX11_shaven 39 = .ok (.invokevirtual 253, 3) := by decide +kernel
theorem dX11_shaven_42 : decode cX11_shaven 42 = .ok (.ireturn, 1) := by decide +kernel
set_option maxRecDepth 20000 in
theorem ggX11_stricter_X11_isTown : GoodIn wsX11_stricter wsX11_isTown := goodIn_r _ [9, 1, 10, 74, 75, 76, 77, 78, 79, 80, 81, 82, 83, 84, 85, 86, 87, 88, 89, 90, 91, 92, 93, 94, 95, 96, 97, 98, 99, 100, 101] (by decide +kernel) (by decide +kernel)
set_option maxRecDepth 20000 in
theorem gX11_stricter_X11_isTown : GoodIn wsX11_stricter (wsV RX11 156 RX11 yX11_isTown wsX11_isTown) := goodIn_app (goodIn_of _ (by decide +kernel)) ggX11_stricter_X11_isTown
set_option maxRecDepth 20000 in
theorem ggX11_stricter_X10_reachOf : GoodIn wsX11_stricter wsX10_reachOf := goodIn_r _ [15, 16, 17, 18, 19, 14, 20, 21, 22, 23, 24, 25, 26, 27, 28, 29, 30, 31, 32, 33, 34, 35, 36, 37, 38, 39, 40, 41, 42, 43, 44, 45, 46, 47, 48, 49, 50, 51, 52, 53, 54, 55, 56, 57, 58, 59, 60, 61, 62, 63, 64, 65, 66, 67, 68, 69, 70, 71, 8, 72, 102, 103, 104, 105, 106, 107, 108, 109, 110, 111, 112, 113, 114, 89, 90, 91, 92, 93, 94, 95, 96, 97, 98, 99, 100, 101, 115, 116, 117, 118] (by decide +kernel) (by decide +kernel)
set_option maxRecDepth 20000 in
theorem gX11_stricter_X10_reachOf : GoodIn wsX11_stricter (wsV RX11 253 RX10 yX10_reachOf wsX10_reachOf) := goodIn_app (goodIn_of _ (by decide +kernel)) ggX11_stricter_X10_reachOf
set_option maxRecDepth 20000 in
theorem ggX11_stricter_X11_has : GoodIn wsX11_stricter wsX11_has := goodIn_r _ [72] (by decide +kernel) (by decide +kernel)
set_option maxRecDepth 20000 in
theorem gX11_stricter_X11_has : GoodIn wsX11_stricter (va_wsS RX11 277 yX11_has wsX11_has) := goodIn_app (goodIn_of _ (by decide +kernel)) ggX11_stricter_X11_has
theorem dX11_stricter_0 : decode cX11_stricter 0 = .ok (.aload_n 0, 1) := by decide +kernel
theorem dX11_stricter_1 : decode cX11_stricter 1 = .ok (.iload_n 1, 1) := by decide +kernel
theorem dX11_stricter_2 : decode cX11_stricter 2 = .ok (.invokevirtual 156, 3) := by decide +kernel
theorem dX11_stricter_5 : decode cX11_stricter 5 = .ok (.ifCond .eq 13, 3) := by decide +kernel
theorem dX11_stricter_8 : decode cX11_stricter 8 = .ok (.iload_n 2, 1) := by decide +kernel
theorem dX11_stricter_9 : decode cX11_stricter 9 = .ok (.ifCond .lt 9, 3) := by decide +kernel
theorem dX11_stricter_12 : decode cX11_stricter 12 = .ok (.iload_n 2, 1) := by decide +kernel
theorem dX11_stricter_13 : decode cX11_stricter 13 = .ok (.bipush 9, 2) := by decide +kernel
theorem dX11_stricter_15 : decode cX11_stricter 15 = .ok (.if_icmp .le 5, 3) := by decide +kernel
theorem dX11_stricter_18 : decode cX11_stricter 18 = .ok (.iconst (-1), 1) := by decide +kernel
theorem dX11_stricter_19 : decode cX11_stricter 19 = .ok (.ireturn, 1) := by decide +kernel
theorem dX11_stricter_20 : decode cX11_stricter 20 = .ok (.iconst 0, 1) := by decide +kernel
theorem dX11_stricter_21 : decode cX11_stricter 21 = .ok (.istore_n 3, 1) := by decide +kernel
theorem dX11_stricter_22 : decode cX11_stricter 22 = .ok (.iconst 0, 1) := by decide +kernel
theorem dX11_stricter_23 : decode cX11_stricter 23 = .ok (.istore 4, 2) := by decide +kernel
theorem dX11_stricter_25 : decode cX11_stricter 25 = .ok (.iload 4, 2) := by decide +kernel
theorem dX11_stricter_27 : decode cX11_stricter 27 = .ok (.aload_n 0, 1) := by decide +kernel
theorem dX11_stricter_28 : decode cX11_stricter 28 = .ok (.getfield 19, 3) := by decide +kernel
theorem dX11_stricter_31 : decode cX11_stricter 31 = .ok (.getfield 172, 3) := by decide +kernel
theorem dX11_stricter_34 : decode cX11_stricter 34 = .ok (.if_icmp .ge 37, 3) := by decide +kernel
theorem dX11_stricter_37 : decode cX11_stricter 37 = .ok (.aload_n 0, 1) := by decide +kernel
theorem dX11_stricter_38 : decode cX11_stricter 38 = .ok (.getfield 57, 3) := by decide +kernel
theorem dX11_stricter_41 : decode cX11_stricter 41 = .ok (.aload_n 0, 1) := by decide +kernel
theorem dX11_stricter_42 : decode cX11_stricter 42 = .ok (.getfield 64, 3) := by decide +kernel
theorem dX11_stricter_45 : decode cX11_stricter 45 = .ok (.iload 4, 2) := by decide +kernel
theorem dX11_stricter_47 : decode cX11_stricter 47 = .ok (.iload_n 2, 1) := by decide +kernel
theorem dX11_stricter_48 : decode cX11_stricter 48 = .ok (.invokevirtual 253, 3) := by decide +kernel
theorem dX11_stricter_51 : decode cX11_stricter 51 = .ok (.iload_n 1, 1) := by decide +kernel
theorem dX11_stricter_52 : decode cX11_stricter 52 = .ok (.invokestatic 277, 3) := by decide +kernel
theorem dX11_stricter_55 : decode cX11_stricter 55 = .ok (.ifCond .eq 10, 3) := by decide +kernel
theorem dX11_stricter_58 : decode cX11_stricter 58 = .ok (.iload_n 3, 1) := by decide +kernel
theorem dX11_stricter_59 : decode cX11_stricter 59 = .ok (.iconst 1, 1) := by decide +kernel
theorem dX11_stricter_60 : decode cX11_stricter 60 = .ok (.iload 4, 2) := by decide +kernel
theorem dX11_stricter_62 : decode cX11_stricter 62 = .ok (.ishl, 1) := by decide +kernel
theorem dX11_stricter_63 : decode cX11_stricter 63 = .ok (.ior, 1) := by decide +kernel
theorem dX11_stricter_64 : decode cX11_stricter 64 = .ok (.istore_n 3, 1) := by decide +kernel
theorem dX11_stricter_65 : decode cX11_stricter 65 = .ok (.iinc 4 1, 3) := by decide +kernel
theorem dX11_stricter_68 : decode cX11_stricter 68 = .ok (.goto (-43), 3) := by decide +kernel
theorem dX11_stricter_71 : decode cX11_stricter 71 = .ok (.iload_n 3, 1) := by decide +kernel
theorem dX11_stricter_72 : decode cX11_stricter 72 = .ok (.ireturn, 1) := by decide +kernel
set_option maxRecDepth 20000 in
theorem ggX11_need_X11_isPerson : GoodIn wsX11_need wsX11_isPerson := goodIn_r _ [5, 6, 7, 100, 101, 102, 103, 104, 105, 106, 107, 108, 109, 110, 111, 112, 113, 114, 115, 116, 117, 118, 119, 120, 121, 122, 123, 124, 125, 126, 127] (by decide +kernel) (by decide +kernel)
set_option maxRecDepth 20000 in
theorem gX11_need_X11_isPerson : GoodIn wsX11_need (wsV RX11 133 RX11 yX11_isPerson wsX11_isPerson) := goodIn_app (goodIn_of _ (by decide +kernel)) ggX11_need_X11_isPerson
set_option maxRecDepth 20000 in
theorem ggX11_need_X11_isTown : GoodIn wsX11_need wsX11_isTown := goodIn_r _ [11, 6, 12, 100, 101, 102, 103, 104, 105, 106, 107, 108, 109, 110, 111, 112, 113, 114, 115, 116, 117, 118, 119, 120, 121, 122, 123, 124, 125, 126, 127] (by decide +kernel) (by decide +kernel)
set_option maxRecDepth 20000 in
theorem gX11_need_X11_isTown : GoodIn wsX11_need (wsV RX11 156 RX11 yX11_isTown wsX11_isTown) := goodIn_app (goodIn_of _ (by decide +kernel)) ggX11_need_X11_isTown
set_option maxRecDepth 20000 in
theorem ggX11_need_X11_fewestInches : GoodIn wsX11_need wsX11_fewestInches := goodIn_r _ [16, 6, 17, 18, 19, 20, 21, 22, 23, 24, 25, 26, 27, 28, 29, 30, 31, 32, 33, 34, 35, 36, 37, 38, 39, 40, 41, 42, 43, 44, 45, 46, 47, 48, 49, 50, 51, 52, 53, 54, 55, 56, 57, 58, 59, 60, 61, 62, 63, 64, 65, 66, 67, 68, 69, 70, 71, 72, 73, 74, 75, 76, 77, 78, 79, 80, 81, 82, 83, 84, 85, 86, 87, 88, 89, 90, 91, 92, 93, 94, 95, 96, 97, 4, 98, 99, 100, 101, 102, 103, 104, 105, 106, 107, 108, 109, 110, 111, 112, 113, 114, 115, 116, 117, 118, 119, 120, 121, 122, 123, 124, 125, 126, 127, 128, 129, 130, 131, 132, 133, 134, 135, 136, 137, 138, 139, 140, 141, 142, 143, 144] (by decide +kernel) (by decide +kernel)
set_option maxRecDepth 20000 in
theorem gX11_need_X11_fewestInches : GoodIn wsX11_need (wsV RX11 281 RX11 yX11_fewestInches wsX11_fewestInches) := goodIn_app (goodIn_of _ (by decide +kernel)) ggX11_need_X11_fewestInches
theorem dX11_need_0 : decode cX11_need 0 = .ok (.aload_n 0, 1) := by decide +kernel
theorem dX11_need_1 : decode cX11_need 1 = .ok (.iload_n 1, 1) := by decide +kernel
theorem dX11_need_2 : decode cX11_need 2 = .ok (.invokevirtual 133, 3) := by decide +kernel
theorem dX11_need_5 : decode cX11_need 5 = .ok (.ifCond .eq 20, 3) := by decide +kernel
theorem dX11_need_8 : decode cX11_need 8 = .ok (.aload_n 0, 1) := by decide +kernel
theorem dX11_need_9 : decode cX11_need 9 = .ok (.iload_n 2, 1) := by decide +kernel
theorem dX11_need_10 : decode cX11_need 10 = .ok (.invokevirtual 156, 3) := by decide +kernel
theorem dX11_need_13 : decode cX11_need 13 = .ok (.ifCond .eq 12, 3) := by decide +kernel
theorem dX11_need_16 : decode cX11_need 16 = .ok (.aload_n 0, 1) := by decide +kernel
theorem dX11_need_17 : decode cX11_need 17 = .ok (.iload_n 1, 1) := by decide +kernel
theorem dX11_need_18 : decode cX11_need 18 = .ok (.iload_n 2, 1) := by decide +kernel
theorem dX11_need_19 : decode cX11_need 19 = .ok (.invokevirtual 281, 3) := by decide +kernel
theorem dX11_need_22 : decode cX11_need 22 = .ok (.goto 4, 3) := by decide +kernel
theorem dX11_need_25 : decode cX11_need 25 = .ok (.iconst (-1), 1) := by decide +kernel
theorem dX11_need_26 : decode cX11_need 26 = .ok (.ireturn, 1) := by decide +kernel
set_option maxRecDepth 20000 in
theorem ggX11_cheapest_X11_isPerson : GoodIn wsX11_cheapest wsX11_isPerson := goodIn_r _ [7, 1, 8, 96, 97, 98, 99, 100, 101, 102, 103, 104, 105, 106, 107, 108, 109, 110, 111, 112, 113, 114, 115, 116, 117, 118, 119, 120, 121, 122, 123] (by decide +kernel) (by decide +kernel)
set_option maxRecDepth 20000 in
theorem gX11_cheapest_X11_isPerson : GoodIn wsX11_cheapest (wsV RX11 133 RX11 yX11_isPerson wsX11_isPerson) := goodIn_app (goodIn_of _ (by decide +kernel)) ggX11_cheapest_X11_isPerson
set_option maxRecDepth 20000 in
theorem ggX11_cheapest_X11_fewestInches : GoodIn wsX11_cheapest wsX11_fewestInches := goodIn_r _ [12, 1, 13, 14, 15, 16, 17, 18, 19, 20, 21, 22, 23, 24, 25, 26, 27, 28, 29, 30, 31, 32, 33, 34, 35, 36, 37, 38, 39, 40, 41, 42, 43, 44, 45, 46, 47, 48, 49, 50, 51, 52, 53, 54, 55, 56, 57, 58, 59, 60, 61, 62, 63, 64, 65, 66, 67, 68, 69, 70, 71, 72, 73, 74, 75, 76, 77, 78, 79, 80, 81, 82, 83, 84, 85, 86, 87, 88, 89, 90, 91, 92, 93, 6, 94, 95, 96, 97, 98, 99, 100, 101, 102, 103, 104, 105, 106, 107, 108, 109, 110, 111, 112, 113, 114, 115, 116, 117, 118, 119, 120, 121, 122, 123, 124, 125, 126, 127, 128, 129, 130, 131, 132, 133, 134, 135, 136, 137, 138, 139, 140] (by decide +kernel) (by decide +kernel)
set_option maxRecDepth 20000 in
theorem gX11_cheapest_X11_fewestInches : GoodIn wsX11_cheapest (wsV RX11 281 RX11 yX11_fewestInches wsX11_fewestInches) := goodIn_app (goodIn_of _ (by decide +kernel)) ggX11_cheapest_X11_fewestInches
theorem dX11_cheapest_0 : decode cX11_cheapest 0 = .ok (.aload_n 0, 1) := by decide +kernel
theorem dX11_cheapest_1 : decode cX11_cheapest 1 = .ok (.iload_n 1, 1) := by decide +kernel
theorem dX11_cheapest_2 : decode cX11_cheapest 2 = .ok (.invokevirtual 133, 3) := by decide +kernel
theorem dX11_cheapest_5 : decode cX11_cheapest 5 = .ok (.ifCond .ne 5, 3) := by decide +kernel
theorem dX11_cheapest_8 : decode cX11_cheapest 8 = .ok (.iconst (-1), 1) := by decide +kernel
theorem dX11_cheapest_9 : decode cX11_cheapest 9 = .ok (.ireturn, 1) := by decide +kernel
theorem dX11_cheapest_10 : decode cX11_cheapest 10 = .ok (.iconst (-1), 1) := by decide +kernel
theorem dX11_cheapest_11 : decode cX11_cheapest 11 = .ok (.istore_n 2, 1) := by decide +kernel
theorem dX11_cheapest_12 : decode cX11_cheapest 12 = .ok (.bipush 21, 2) := by decide +kernel
theorem dX11_cheapest_14 : decode cX11_cheapest 14 = .ok (.istore_n 3, 1) := by decide +kernel
theorem dX11_cheapest_15 : decode cX11_cheapest 15 = .ok (.iconst 0, 1) := by decide +kernel
theorem dX11_cheapest_16 : decode cX11_cheapest 16 = .ok (.istore 4, 2) := by decide +kernel
theorem dX11_cheapest_18 : decode cX11_cheapest 18 = .ok (.iload 4, 2) := by decide +kernel
theorem dX11_cheapest_20 : decode cX11_cheapest 20 = .ok (.aload_n 0, 1) := by decide +kernel
theorem dX11_cheapest_21 : decode cX11_cheapest 21 = .ok (.getfield 19, 3) := by decide +kernel
theorem dX11_cheapest_24 : decode cX11_cheapest 24 = .ok (.getfield 169, 3) := by decide +kernel
theorem dX11_cheapest_27 : decode cX11_cheapest 27 = .ok (.if_icmp .ge 35, 3) := by decide +kernel
theorem dX11_cheapest_30 : decode cX11_cheapest 30 = .ok (.aload_n 0, 1) := by decide +kernel
theorem dX11_cheapest_31 : decode cX11_cheapest 31 = .ok (.iload_n 1, 1) := by decide +kernel
theorem dX11_cheapest_32 : decode cX11_cheapest 32 = .ok (.iload 4, 2) := by decide +kernel
theorem dX11_cheapest_34 : decode cX11_cheapest 34 = .ok (.invokevirtual 281, 3) := by decide +kernel
theorem dX11_cheapest_37 : decode cX11_cheapest 37 = .ok (.istore 5, 2) := by decide +kernel
theorem dX11_cheapest_39 : decode cX11_cheapest 39 = .ok (.iload 5, 2) := by decide +kernel
theorem dX11_cheapest_41 : decode cX11_cheapest 41 = .ok (.ifCond .le 15, 3) := by decide +kernel
theorem dX11_cheapest_44 : decode cX11_cheapest 44 = .ok (.iload 5, 2) := by decide +kernel
theorem dX11_cheapest_46 : decode cX11_cheapest 46 = .ok (.iload_n 3, 1) := by decide +kernel
theorem dX11_cheapest_47 : decode cX11_cheapest 47 = .ok (.if_icmp .ge 9, 3) := by decide +kernel
theorem dX11_cheapest_50 : decode cX11_cheapest 50 = .ok (.iload 5, 2) := by decide +kernel
theorem dX11_cheapest_52 : decode cX11_cheapest 52 = .ok (.istore_n 3, 1) := by decide +kernel
theorem dX11_cheapest_53 : decode cX11_cheapest 53 = .ok (.iload 4, 2) := by decide +kernel
theorem dX11_cheapest_55 : decode cX11_cheapest 55 = .ok (.istore_n 2, 1) := by decide +kernel
theorem dX11_cheapest_56 : decode cX11_cheapest 56 = .ok (.iinc 4 1, 3) := by decide +kernel
theorem dX11_cheapest_59 : decode cX11_cheapest 59 = .ok (.goto (-41), 3) := by decide +kernel
theorem dX11_cheapest_62 : decode cX11_cheapest 62 = .ok (.iload_n 2, 1) := by decide +kernel
theorem dX11_cheapest_63 : decode cX11_cheapest 63 = .ok (.ireturn, 1) := by decide +kernel
set_option maxRecDepth 20000 in
theorem ggX11_debt_X11_isPerson : GoodIn wsX11_debt wsX11_isPerson := goodIn_r _ [13, 1, 14, 106, 107, 108, 109, 110, 111, 112, 113, 114, 115, 116, 117, 118, 119, 120, 121, 122, 123, 124, 125, 126, 127, 128, 129, 130, 131, 132, 133] (by decide +kernel) (by decide +kernel)
set_option maxRecDepth 20000 in
theorem gX11_debt_X11_isPerson : GoodIn wsX11_debt (wsV RX11 133 RX11 yX11_isPerson wsX11_isPerson) := goodIn_app (goodIn_of _ (by decide +kernel)) ggX11_debt_X11_isPerson
set_option maxRecDepth 20000 in
theorem ggX11_debt_X11_isTown : GoodIn wsX11_debt wsX11_isTown := goodIn_r _ [18, 1, 19, 106, 107, 108, 109, 110, 111, 112, 113, 114, 115, 116, 117, 118, 119, 120, 121, 122, 123, 124, 125, 126, 127, 128, 129, 130, 131, 132, 133] (by decide +kernel) (by decide +kernel)
set_option maxRecDepth 20000 in
theorem gX11_debt_X11_isTown : GoodIn wsX11_debt (wsV RX11 156 RX11 yX11_isTown wsX11_isTown) := goodIn_app (goodIn_of _ (by decide +kernel)) ggX11_debt_X11_isTown
set_option maxRecDepth 20000 in
theorem ggX11_debt_X11_fewestInches : GoodIn wsX11_debt wsX11_fewestInches := goodIn_r _ [23, 1, 24, 3, 25, 26, 27, 28, 29, 30, 31, 32, 33, 34, 35, 36, 37, 38, 39, 40, 41, 42, 43, 44, 45, 46, 47, 48, 49, 50, 51, 52, 53, 54, 55, 56, 57, 58, 59, 60, 61, 62, 63, 64, 65, 66, 67, 68, 69, 70, 71, 72, 73, 74, 75, 76, 77, 78, 79, 80, 81, 82, 83, 84, 85, 86, 87, 88, 89, 90, 91, 92, 93, 94, 95, 96, 97, 98, 99, 100, 101, 102, 103, 12, 104, 105, 106, 107, 108, 109, 110, 111, 112, 113, 114, 115, 116, 117, 118, 119, 120, 121, 122, 123, 124, 125, 126, 127, 128, 129, 130, 131, 132, 133, 134, 135, 136, 137, 138, 139, 140, 141, 142, 143, 144, 145, 146, 147, 148, 149, 150] (by decide +kernel) (by decide +kernel)
set_option maxRecDepth 20000 in
theorem gX11_debt_X11_fewestInches : GoodIn wsX11_debt (wsV RX11 281 RX11 yX11_fewestInches wsX11_fewestInches) := goodIn_app (goodIn_of _ (by decide +kernel)) ggX11_debt_X11_fewestInches
theorem dX11_debt_0 : decode cX11_debt 0 = .ok (.aload_n 0, 1) := by decide +kernel
theorem dX11_debt_1 : decode cX11_debt 1 = .ok (.iload_n 1, 1) := by decide +kernel
theorem dX11_debt_2 : decode cX11_debt 2 = .ok (.invokevirtual 133, 3) := by decide +kernel
theorem dX11_debt_5 : decode cX11_debt 5 = .ok (.ifCond .eq 11, 3) := by decide +kernel
theorem dX11_debt_8 : decode cX11_debt 8 = .ok (.aload_n 0, 1) := by decide +kernel
theorem dX11_debt_9 : decode cX11_debt 9 = .ok (.iload_n 2, 1) := by decide +kernel
theorem dX11_debt_10 : decode cX11_debt 10 = .ok (.invokevirtual 156, 3) := by decide +kernel
theorem dX11_debt_13 : decode cX11_debt 13 = .ok (.ifCond .ne 5, 3) := by decide +kernel
theorem dX11_debt_16 : decode cX11_debt 16 = .ok (.iconst (-1), 1) := by decide +kernel
theorem dX11_debt_17 : decode cX11_debt 17 = .ok (.ireturn, 1) := by decide +kernel
theorem dX11_debt_18 : decode cX11_debt 18 = .ok (.aload_n 0, 1) := by decide +kernel
theorem dX11_debt_19 : decode cX11_debt 19 = .ok (.iload_n 1, 1) := by decide +kernel
theorem dX11_debt_20 : decode cX11_debt 20 = .ok (.iload_n 2, 1) := by decide +kernel
theorem dX11_debt_21 : decode cX11_debt 21 = .ok (.invokevirtual 281, 3) := by decide +kernel
theorem dX11_debt_24 : decode cX11_debt 24 = .ok (.istore_n 3, 1) := by decide +kernel
theorem dX11_debt_25 : decode cX11_debt 25 = .ok (.iload_n 3, 1) := by decide +kernel
theorem dX11_debt_26 : decode cX11_debt 26 = .ok (.iconst (-1), 1) := by decide +kernel
theorem dX11_debt_27 : decode cX11_debt 27 = .ok (.if_icmp .ne 5, 3) := by decide +kernel
theorem dX11_debt_30 : decode cX11_debt 30 = .ok (.iconst (-1), 1) := by decide +kernel
theorem dX11_debt_31 : decode cX11_debt 31 = .ok (.ireturn, 1) := by decide +kernel
theorem dX11_debt_32 : decode cX11_debt 32 = .ok (.iconst 0, 1) := by decide +kernel
theorem dX11_debt_33 : decode cX11_debt 33 = .ok (.iload_n 3, 1) := by decide +kernel
theorem dX11_debt_34 : decode cX11_debt 34 = .ok (.aload_n 0, 1) := by decide +kernel
theorem dX11_debt_35 : decode cX11_debt 35 = .ok (.getfield 19, 3) := by decide +kernel
theorem dX11_debt_38 : decode cX11_debt 38 = .ok (.getfield 178, 3) := by decide +kernel
theorem dX11_debt_41 : decode cX11_debt 41 = .ok (.imul, 1) := by decide +kernel
theorem dX11_debt_42 : decode cX11_debt 42 = .ok (.aload_n 0, 1) := by decide +kernel
theorem dX11_debt_43 : decode cX11_debt 43 = .ok (.getfield 64, 3) := by decide +kernel
theorem dX11_debt_46 : decode cX11_debt 46 = .ok (.getfield 150, 3) := by decide +kernel
theorem dX11_debt_49 : decode cX11_debt 49 = .ok (.iload_n 1, 1) := by decide +kernel
theorem dX11_debt_50 : decode cX11_debt 50 = .ok (.iaload, 1) := by decide +kernel
theorem dX11_debt_51 : decode cX11_debt 51 = .ok (.isub, 1) := by decide +kernel
theorem dX11_debt_52 : decode cX11_debt 52 = .ok (.invokestatic 284, 3) := by decide +kernel
theorem dX11_debt_55 : decode cX11_debt 55 = .ok (.ireturn, 1) := by decide +kernel
set_option maxRecDepth 20000 in
theorem ggX11_meeting_J7_fill_53178 : GoodIn wsX11_meeting wsJ7_fill_53178 := goodIn_r _ [10] (by decide +kernel) (by decide +kernel)
set_option maxRecDepth 20000 in
theorem gX11_meeting_J7_fill_53178 : GoodIn wsX11_meeting (va_wsS RX11 290 yJ7_fill_53178 wsJ7_fill_53178) := goodIn_app (goodIn_of _ (by decide +kernel)) ggX11_meeting_J7_fill_53178
set_option maxRecDepth 20000 in
theorem ggX11_meeting_X2_allTowns : GoodIn wsX11_meeting wsX2_allTowns := goodIn_r _ [15, 16, 139, 140, 141, 142, 143, 144, 145, 146, 147, 148, 149, 150, 151] (by decide +kernel) (by decide +kernel)
set_option maxRecDepth 20000 in
theorem gX11_meeting_X2_allTowns : GoodIn wsX11_meeting (wsV RX11 296 RX2 yX2_allTowns wsX2_allTowns) := goodIn_app (goodIn_of _ (by decide +kernel)) ggX11_meeting_X2_allTowns
set_option maxRecDepth 20000 in
theorem ggX11_meeting_X10_findSoonest : GoodIn wsX11_meeting wsX10_findSoonest := goodIn_r _ [21, 22, 23, 24, 25, 26, 27, 28, 29, 30, 20, 31, 32, 33, 34, 35, 36, 37, 38, 39, 40, 41, 42, 43, 44, 45, 46, 47, 48, 49, 8, 9, 10, 50, 51, 52, 53, 54, 55, 56, 57, 58, 59, 60, 61, 62, 63, 64, 65, 66, 67, 68, 69, 70, 71, 72, 73, 74, 75, 76, 77, 78, 79, 80, 81, 82, 83, 84, 85, 86, 87, 88, 89, 90, 91, 92, 93, 94, 95, 96, 97, 98, 99, 100, 101, 102, 103, 104, 105, 106, 107, 108, 152, 153, 154, 155, 156, 157, 132, 133, 134, 135, 136, 137, 138, 139, 140, 141, 142, 143, 144, 145, 146, 147, 148, 149, 150, 151, 158, 159, 160, 161] (by decide +kernel) (by decide +kernel)
set_option maxRecDepth 20000 in
theorem gX11_meeting_X10_findSoonest : GoodIn wsX11_meeting (wsV RX11 265 RX10 yX10_findSoonest wsX10_findSoonest) := goodIn_app (goodIn_of _ (by decide +kernel)) ggX11_meeting_X10_findSoonest
set_option maxRecDepth 20000 in
theorem ggX11_meeting_X10_waitForSoonest : GoodIn wsX11_meeting wsX10_waitForSoonest := goodIn_r _ [112, 25, 26, 113, 23, 114, 115, 107, 116, 132, 133, 134, 135, 136, 137, 138, 139, 140, 141, 142, 143, 144, 145, 146, 147, 148, 149, 150, 151] (by decide +kernel) (by decide +kernel)
set_option maxRecDepth 20000 in
theorem gX11_meeting_X10_waitForSoonest : GoodIn wsX11_meeting (wsV RX11 299 RX10 yX10_waitForSoonest wsX10_waitForSoonest) := goodIn_app (goodIn_of _ (by decide +kernel)) ggX11_meeting_X10_waitForSoonest
theorem dX11_meeting_0 : decode cX11_meeting 0 = .ok (.iload_n 1, 1) := by decide +kernel
theorem dX11_meeting_1 : decode cX11_meeting 1 = .ok (.ifCond .eq 10, 3) := by decide +kernel
theorem dX11_meeting_4 : decode cX11_meeting 4 = .ok (.iload_n 1, 1) := by decide +kernel
theorem dX11_meeting_5 : decode cX11_meeting 5 = .ok (.iconst 1, 1) := by decide +kernel
theorem dX11_meeting_6 : decode cX11_meeting 6 = .ok (.if_icmp .eq 5, 3) := by decide +kernel
theorem dX11_meeting_9 : decode cX11_meeting 9 = .ok (.iconst (-1), 1) := by decide +kernel
theorem dX11_meeting_10 : decode cX11_meeting 10 = .ok (.ireturn, 1) := by decide +kernel
theorem dX11_meeting_11 : decode cX11_meeting 11 = .ok (.aload_n 0, 1) := by decide +kernel
theorem dX11_meeting_12 : decode cX11_meeting 12 = .ok (.getfield 57, 3) := by decide +kernel
theorem dX11_meeting_15 : decode cX11_meeting 15 = .ok (.getfield 287, 3) := by decide +kernel
theorem dX11_meeting_18 : decode cX11_meeting 18 = .ok (.iconst 0, 1) := by decide +kernel
theorem dX11_meeting_19 : decode cX11_meeting 19 = .ok (.invokestatic 290, 3) := by decide +kernel
theorem dX11_meeting_22 : decode cX11_meeting 22 = .ok (.iconst 0, 1) := by decide +kernel
theorem dX11_meeting_23 : decode cX11_meeting 23 = .ok (.istore_n 2, 1) := by decide +kernel
theorem dX11_meeting_24 : decode cX11_meeting 24 = .ok (.iload_n 2, 1) := by decide +kernel
theorem dX11_meeting_25 : decode cX11_meeting 25 = .ok (.aload_n 0, 1) := by decide +kernel
theorem dX11_meeting_26 : decode cX11_meeting 26 = .ok (.getfield 19, 3) := by decide +kernel
theorem dX11_meeting_29 : decode cX11_meeting 29 = .ok (.getfield 172, 3) := by decide +kernel
theorem dX11_meeting_32 : decode cX11_meeting 32 = .ok (.if_icmp .ge 35, 3) := by decide +kernel
theorem dX11_meeting_35 : decode cX11_meeting 35 = .ok (.aload_n 0, 1) := by decide +kernel
theorem dX11_meeting_36 : decode cX11_meeting 36 = .ok (.getfield 57, 3) := by decide +kernel
theorem dX11_meeting_39 : decode cX11_meeting 39 = .ok (.aload_n 0, 1) := by decide +kernel
theorem dX11_meeting_40 : decode cX11_meeting 40 = .ok (.getfield 64, 3) := by decide +kernel
theorem dX11_meeting_43 : decode cX11_meeting 43 = .ok (.iload_n 2, 1) := by decide +kernel
theorem dX11_meeting_44 : decode cX11_meeting 44 = .ok (.aload_n 0, 1) := by decide +kernel
theorem dX11_meeting_45 : decode cX11_meeting 45 = .ok (.getfield 19, 3) := by decide +kernel
theorem dX11_meeting_48 : decode cX11_meeting 48 = .ok (.invokevirtual 296, 3) := by decide +kernel
theorem dX11_meeting_51 : decode cX11_meeting 51 = .ok (.invokevirtual 265, 3) := by decide +kernel
theorem dX11_meeting_54 : decode cX11_meeting 54 = .ok (.aload_n 0, 1) := by decide +kernel
theorem dX11_meeting_55 : decode cX11_meeting 55 = .ok (.getfield 57, 3) := by decide +kernel
theorem dX11_meeting_58 : decode cX11_meeting 58 = .ok (.invokevirtual 299, 3) := by decide +kernel
theorem dX11_meeting_61 : decode cX11_meeting 61 = .ok (.iinc 2 1, 3) := by decide +kernel
theorem dX11_meeting_64 : decode cX11_meeting 64 = .ok (.goto (-40), 3) := by decide +kernel
theorem dX11_meeting_67 : decode cX11_meeting 67 = .ok (.iconst (-1), 1) := by decide +kernel
theorem dX11_meeting_68 : decode cX11_meeting 68 = .ok (.istore_n 2, 1) := by decide +kernel
theorem dX11_meeting_69 : decode cX11_meeting 69 = .ok (.iconst 0, 1) := by decide +kernel
theorem dX11_meeting_70 : decode cX11_meeting 70 = .ok (.istore_n 3, 1) := by decide +kernel
theorem dX11_meeting_71 : decode cX11_meeting 71 = .ok (.iload_n 3, 1) := by decide +kernel
theorem dX11_meeting_72 : decode cX11_meeting 72 = .ok (.aload_n 0, 1) := by decide +kernel
theorem dX11_meeting_73 : decode cX11_meeting 73 = .ok (.getfield 19, 3) := by decide +kernel
theorem dX11_meeting_76 : decode cX11_meeting 76 = .ok (.getfield 169, 3) := by decide +kernel
theorem dX11_meeting_79 : decode cX11_meeting 79 = .ok (.if_icmp .ge 47, 3) := by decide +kernel
theorem dX11_meeting_82 : decode cX11_meeting 82 = .ok (.aload_n 0, 1) := by decide +kernel
theorem dX11_meeting_83 : decode cX11_meeting 83 = .ok (.getfield 57, 3) := by decide +kernel
theorem dX11_meeting_86 : decode cX11_meeting 86 = .ok (.getfield 287, 3) := by decide +kernel
theorem dX11_meeting_89 : decode cX11_meeting 89 = .ok (.iload_n 3, 1) := by decide +kernel
theorem dX11_meeting_90 : decode cX11_meeting 90 = .ok (.iaload, 1) := by decide +kernel
theorem dX11_meeting_91 : decode cX11_meeting 91 = .ok (.istore 4, 2) := by decide +kernel
theorem dX11_meeting_93 : decode cX11_meeting 93 = .ok (.iload 4, 2) := by decide +kernel
theorem dX11_meeting_95 : decode cX11_meeting 95 = .ok (.iconst (-1), 1) := by decide +kernel
theorem dX11_meeting_96 : decode cX11_meeting 96 = .ok (.if_icmp .eq 24, 3) := by decide +kernel
theorem dX11_meeting_99 : decode cX11_meeting 99 = .ok (.iload_n 2, 1) := by decide +kernel
theorem dX11_meeting_100 : decode cX11_meeting 100 = .ok (.iconst (-1), 1) := by decide +kernel
theorem dX11_meeting_101 : decode cX11_meeting 101 = .ok (.if_icmp .eq 17, 3) := by decide +kernel
theorem dX11_meeting_104 : decode cX11_meeting 104 = .ok (.iload 4, 2) := by decide +kernel
theorem dX11_meeting_106 : decode cX11_meeting 106 = .ok (.aload_n 0, 1) := by decide +kernel
theorem dX11_meeting_107 : decode cX11_meeting 107 = .ok (.getfield 57, 3) := by decide +kernel
theorem dX11_meeting_110 : decode cX11_meeting 110 = .ok (.getfield 287, 3) := by decide +kernel
theorem dX11_meeting_113 : decode cX11_meeting 113 = .ok (.iload_n 2, 1) := by decide +kernel
theorem dX11_meeting_114 : decode cX11_meeting 114 = .ok (.iaload, 1) := by decide +kernel
theorem dX11_meeting_115 : decode cX11_meeting 115 = .ok (.if_icmp .ge 5, 3) := by decide +kernel
theorem dX11_meeting_118 : decode cX11_meeting 118 = .ok (.iload_n 3, 1) := by decide +kernel
theorem dX11_meeting_119 : decode cX11_meeting 119 = .ok (.istore_n 2, 1) := by decide +kernel
theorem dX11_meeting_120 : decode cX11_meeting 120 = .ok (.iinc 3 1, 3) := by decide +kernel
theorem dX11_meeting_123 : decode cX11_meeting 123 = .ok (.goto (-52), 3) := by decide +kernel
theorem dX11_meeting_126 : decode cX11_meeting 126 = .ok (.iload_n 2, 1) := by decide +kernel
theorem dX11_meeting_127 : decode cX11_meeting 127 = .ok (.iconst (-1), 1) := by decide +kernel
theorem dX11_meeting_128 : decode cX11_meeting 128 = .ok (.if_icmp .eq 8, 3) := by decide +kernel
theorem dX11_meeting_131 : decode cX11_meeting 131 = .ok (.iload_n 1, 1) := by decide +kernel
theorem dX11_meeting_132 : decode cX11_meeting 132 = .ok (.iconst 1, 1) := by decide +kernel
theorem dX11_meeting_133 : decode cX11_meeting 133 = .ok (.if_icmp .ne 7, 3) := by decide +kernel
theorem dX11_meeting_136 : decode cX11_meeting 136 = .ok (.iload_n 2, 1) := by decide +kernel
theorem dX11_meeting_137 : decode cX11_meeting 137 = .ok (.goto 12, 3) := by decide +kernel
theorem dX11_meeting_140 : decode cX11_meeting 140 = .ok (.aload_n 0, 1) := by decide +kernel
theorem dX11_meeting_141 : decode cX11_meeting 141 = .ok (.getfield 57, 3) := by decide +kernel
theorem dX11_meeting_144 : decode cX11_meeting 144 = .ok (.getfield 287, 3) := by decide +kernel
theorem dX11_meeting_147 : decode cX11_meeting 147 = .ok (.iload_n 2, 1) := by decide +kernel
theorem dX11_meeting_148 : decode cX11_meeting 148 = .ok (.iaload, 1) := by decide +kernel
theorem dX11_meeting_149 : decode cX11_meeting 149 = .ok (.ireturn, 1) := by decide +kernel
set_option maxRecDepth 20000 in
theorem ggX11_speakers_X11_isPerson : GoodIn wsX11_speakers wsX11_isPerson := goodIn_r _ [10, 1, 11, 49, 50, 51, 52, 53, 54, 55, 56, 57, 58, 59, 60, 61, 62, 63, 64, 65, 66, 67, 68, 69, 70, 71, 72, 73, 74, 75, 76] (by decide +kernel) (by decide +kernel)
set_option maxRecDepth 20000 in
theorem gX11_speakers_X11_isPerson : GoodIn wsX11_speakers (wsV RX11 133 RX11 yX11_isPerson wsX11_isPerson) := goodIn_app (goodIn_of _ (by decide +kernel)) ggX11_speakers_X11_isPerson
set_option maxRecDepth 20000 in
theorem ggX11_speakers_X11_isTown : GoodIn wsX11_speakers wsX11_isTown := goodIn_r _ [15, 1, 16, 49, 50, 51, 52, 53, 54, 55, 56, 57, 58, 59, 60, 61, 62, 63, 64, 65, 66, 67, 68, 69, 70, 71, 72, 73, 74, 75, 76] (by decide +kernel) (by decide +kernel)
set_option maxRecDepth 20000 in
theorem gX11_speakers_X11_isTown : GoodIn wsX11_speakers (wsV RX11 156 RX11 yX11_isTown wsX11_isTown) := goodIn_app (goodIn_of _ (by decide +kernel)) ggX11_speakers_X11_isTown
set_option maxRecDepth 20000 in
theorem ggX11_speakers_X0_voices : GoodIn wsX11_speakers wsX0_voices := goodIn_r _ [21, 22, 23, 24, 25, 26, 27, 28, 20, 29, 30, 31, 32, 33, 34, 35, 36, 37, 38, 39, 40, 41, 42, 43, 44, 45, 46, 47, 48, 83, 64, 65, 66, 67, 68, 69, 70, 71, 72, 73, 74, 75, 76, 77, 78, 79, 80, 81, 82, 84, 85, 86] (by decide +kernel) (by decide +kernel)
set_option maxRecDepth 20000 in
theorem gX11_speakers_X0_voices : GoodIn wsX11_speakers (wsV RX11 302 RX0 yX0_voices wsX0_voices) := goodIn_app (goodIn_of _ (by decide +kernel)) ggX11_speakers_X0_voices
theorem dX11_speakers_0 : decode cX11_speakers 0 = .ok (.aload_n 0, 1) := by decide +kernel
theorem dX11_speakers_1 : decode cX11_speakers 1 = .ok (.iload_n 1, 1) := by decide +kernel
theorem dX11_speakers_2 : decode cX11_speakers 2 = .ok (.invokevirtual 133, 3) := by decide +kernel
theorem dX11_speakers_5 : decode cX11_speakers 5 = .ok (.ifCond .eq 24, 3) := by decide +kernel
theorem dX11_speakers_8 : decode cX11_speakers 8 = .ok (.aload_n 0, 1) := by decide +kernel
theorem dX11_speakers_9 : decode cX11_speakers 9 = .ok (.iload_n 2, 1) := by decide +kernel
theorem dX11_speakers_10 : decode cX11_speakers 10 = .ok (.invokevirtual 156, 3) := by decide +kernel
theorem dX11_speakers_13 : decode cX11_speakers 13 = .ok (.ifCond .eq 16, 3) := by decide +kernel
theorem dX11_speakers_16 : decode cX11_speakers 16 = .ok (.aload_n 0, 1) := by decide +kernel
theorem dX11_speakers_17 : decode cX11_speakers 17 = .ok (.getfield 19, 3) := by decide +kernel
theorem dX11_speakers_20 : decode cX11_speakers 20 = .ok (.getfield 137, 3) := by decide +kernel
theorem dX11_speakers_23 : decode cX11_speakers 23 = .ok (.iload_n 1, 1) := by decide +kernel
theorem dX11_speakers_24 : decode cX11_speakers 24 = .ok (.iaload, 1) := by decide +kernel
theorem dX11_speakers_25 : decode cX11_speakers 25 = .ok (.iconst 1, 1) := by decide +kernel
theorem dX11_speakers_26 : decode cX11_speakers 26 = .ok (.if_icmp .eq 5, 3) := by decide +kernel
theorem dX11_speakers_29 : decode cX11_speakers 29 = .ok (.iconst (-1), 1) := by decide +kernel
theorem dX11_speakers_30 : decode cX11_speakers 30 = .ok (.ireturn, 1) := by decide +kernel
theorem dX11_speakers_31 : decode cX11_speakers 31 = .ok (.aload_n 0, 1) := by decide +kernel
theorem dX11_speakers_32 : decode cX11_speakers 32 = .ok (.getfield 48, 3) := by decide +kernel
theorem dX11_speakers_35 : decode cX11_speakers 35 = .ok (.aload_n 0, 1) := by decide +kernel
theorem dX11_speakers_36 : decode cX11_speakers 36 = .ok (.getfield 64, 3) := by decide +kernel
theorem dX11_speakers_39 : decode cX11_speakers 39 = .ok (.aload_n 0, 1) := by decide +kernel
theorem dX11_speakers_40 : decode cX11_speakers 40 = .ok (.getfield 64, 3) := by decide +kernel
theorem dX11_speakers_43 : decode cX11_speakers 43 = .ok (.getfield 141, 3) := by decide +kernel
theorem dX11_speakers_46 : decode cX11_speakers 46 = .ok (.iload_n 1, 1) := by decide +kernel
theorem dX11_speakers_47 : decode cX11_speakers 47 = .ok (.iaload, 1) := by decide +kernel
theorem dX11_speakers_48 : decode cX11_speakers 48 = .ok (.iload_n 2, 1) := by decide +kernel
theorem dX11_speakers_49 : decode cX11_speakers 49 = .ok (.invokevirtual 302, 3) := by decide +kernel
theorem dX11_speakers_52 : decode cX11_speakers 52 = .ok (.ireturn, 1) := by decide +kernel
set_option maxRecDepth 20000 in
theorem ggX11_strict_X0_letThrough : GoodIn wsX11_strict wsX0_letThrough := goodIn_r _ [9, 10, 11, 12, 13, 14, 8, 15, 16, 17, 18, 19, 20, 21, 22, 23, 24, 25, 26, 27, 28, 29, 30, 31, 32, 33, 34, 35, 36, 37, 38, 39, 40, 41, 42, 43, 44, 80, 67, 68, 69, 70, 71, 72, 73, 74, 75, 76, 77, 78, 79, 81, 82, 83, 84, 85, 86, 87, 88, 89] (by decide +kernel) (by decide +kernel)
set_option maxRecDepth 20000 in
theorem gX11_strict_X0_letThrough : GoodIn wsX11_strict (wsV RX11 165 RX0 yX0_letThrough wsX0_letThrough) := goodIn_app (goodIn_of _ (by decide +kernel)) ggX11_strict_X0_letThrough
set_option maxRecDepth 20000 in
theorem ggX11_strict_J6_bitCount_0f7a4 : GoodIn wsX11_strict wsJ6_bitCount_0f7a4 := goodIn_r _ [48, 49, 50, 51] (by decide +kernel) (by decide +kernel)
set_option maxRecDepth 20000 in
theorem gX11_strict_J6_bitCount_0f7a4 : GoodIn wsX11_strict (va_wsS RX11 305 yJ6_bitCount_0f7a4 wsJ6_bitCount_0f7a4) := goodIn_app (goodIn_of _ (by decide +kernel)) ggX11_strict_J6_bitCount_0f7a4
theorem dX11_strict_0 : decode cX11_strict 0 = .ok (.iconst (-1), 1) := by decide +kernel
theorem dX11_strict_1 : decode cX11_strict 1 = .ok (.istore_n 1, 1) := by decide +kernel
theorem dX11_strict_2 : decode cX11_strict 2 = .ok (.bipush 7, 2) := by decide +kernel
theorem dX11_strict_4 : decode cX11_strict 4 = .ok (.istore_n 2, 1) := by decide +kernel
theorem dX11_strict_5 : decode cX11_strict 5 = .ok (.iconst 0, 1) := by decide +kernel
theorem dX11_strict_6 : decode cX11_strict 6 = .ok (.istore_n 3, 1) := by decide +kernel
theorem dX11_strict_7 : decode cX11_strict 7 = .ok (.iload_n 3, 1) := by decide +kernel
theorem dX11_strict_8 : decode cX11_strict 8 = .ok (.aload_n 0, 1) := by decide +kernel
theorem dX11_strict_9 : decode cX11_strict 9 = .ok (.getfield 19, 3) := by decide +kernel
theorem dX11_strict_12 : decode cX11_strict 12 = .ok (.getfield 169, 3) := by decide +kernel
theorem dX11_strict_15 : decode cX11_strict 15 = .ok (.if_icmp .ge 37, 3) := by decide +kernel
theorem dX11_strict_18 : decode cX11_strict 18 = .ok (.aload_n 0, 1) := by decide +kernel
theorem dX11_strict_19 : decode cX11_strict 19 = .ok (.getfield 48, 3) := by decide +kernel
theorem dX11_strict_22 : decode cX11_strict 22 = .ok (.aload_n 0, 1) := by decide +kernel
theorem dX11_strict_23 : decode cX11_strict 23 = .ok (.getfield 64, 3) := by decide +kernel
theorem dX11_strict_26 : decode cX11_strict 26 = .ok (.iload_n 3, 1) := by decide +kernel
theorem dX11_strict_27 : decode cX11_strict 27 = .ok (.invokevirtual 165, 3) := by decide +kernel
theorem dX11_strict_30 : decode cX11_strict 30 = .ok (.invokestatic 305, 3) := by decide +kernel
theorem dX11_strict_33 : decode cX11_strict 33 = .ok (.istore 4, 2) := by decide +kernel
theorem dX11_strict_35 : decode cX11_strict 35 = .ok (.iload 4, 2) := by decide +kernel
theorem dX11_strict_37 : decode cX11_strict 37 = .ok (.iload_n 2, 1) := by decide +kernel
theorem dX11_strict_38 : decode cX11_strict 38 = .ok (.if_icmp .ge 8, 3) := by decide +kernel
theorem dX11_strict_41 : decode cX11_strict 41 = .ok (.iload 4, 2) := by decide +kernel
theorem dX11_strict_43 : decode cX11_strict 43 = .ok (.istore_n 2, 1) := by decide +kernel
theorem dX11_strict_44 : decode cX11_strict 44 = .ok (.iload_n 3, 1) := by decide +kernel
theorem dX11_strict_45 : decode cX11_strict 45 = .ok (.istore_n 1, 1) := by decide +kernel
theorem dX11_strict_46 : decode cX11_strict 46 = .ok (.iinc 3 1, 3) := by decide +kernel
theorem dX11_strict_49 : decode cX11_strict 49 = .ok (.goto (-42), 3) := by decide +kernel
theorem dX11_strict_52 : decode cX11_strict 52 = .ok (.iload_n 1, 1) := by decide +kernel
theorem dX11_strict_53 : decode cX11_strict 53 = .ok (.ireturn, 1) := by decide +kernel
set_option maxRecDepth 20000 in
theorem ggX11_alike_X0_letThrough : GoodIn wsX11_alike wsX0_letThrough := goodIn_r _ [9, 10, 11, 12, 13, 14, 8, 15, 16, 17, 18, 19, 20, 21, 22, 23, 24, 25, 26, 27, 28, 29, 30, 31, 32, 33, 34, 35, 36, 37, 38, 39, 40, 41, 42, 43, 44, 73, 60, 61, 62, 63, 64, 65, 66, 67, 68, 69, 70, 71, 72, 74, 75, 76, 77, 78, 79, 80, 81, 82] (by decide +kernel) (by decide +kernel)
set_option maxRecDepth 20000 in
theorem gX11_alike_X0_letThrough : GoodIn wsX11_alike (wsV RX11 165 RX0 yX0_letThrough wsX0_letThrough) := goodIn_app (goodIn_of _ (by decide +kernel)) ggX11_alike_X0_letThrough
theorem dX11_alike_0 : decode cX11_alike 0 = .ok (.iconst 0, 1) := by decide +kernel
theorem dX11_alike_1 : decode cX11_alike 1 = .ok (.istore_n 1, 1) := by decide +kernel
theorem dX11_alike_2 : decode cX11_alike 2 = .ok (.iconst 0, 1) := by decide +kernel
theorem dX11_alike_3 : decode cX11_alike 3 = .ok (.istore_n 2, 1) := by decide +kernel
theorem dX11_alike_4 : decode cX11_alike 4 = .ok (.iload_n 2, 1) := by decide +kernel
theorem dX11_alike_5 : decode cX11_alike 5 = .ok (.aload_n 0, 1) := by decide +kernel
theorem dX11_alike_6 : decode cX11_alike 6 = .ok (.getfield 19, 3) := by decide +kernel
theorem dX11_alike_9 : decode cX11_alike 9 = .ok (.getfield 169, 3) := by decide +kernel
theorem dX11_alike_12 : decode cX11_alike 12 = .ok (.if_icmp .ge 65, 3) := by decide +kernel
theorem dX11_alike_15 : decode cX11_alike 15 = .ok (.aload_n 0, 1) := by decide +kernel
theorem dX11_alike_16 : decode cX11_alike 16 = .ok (.getfield 48, 3) := by decide +kernel
theorem dX11_alike_19 : decode cX11_alike 19 = .ok (.aload_n 0, 1) := by decide +kernel
theorem dX11_alike_20 : decode cX11_alike 20 = .ok (.getfield 64, 3) := by decide +kernel
theorem dX11_alike_23 : decode cX11_alike 23 = .ok (.iload_n 2, 1) := by decide +kernel
theorem dX11_alike_24 : decode cX11_alike 24 = .ok (.invokevirtual 165, 3) := by decide +kernel
theorem dX11_alike_27 : decode cX11_alike 27 = .ok (.istore_n 3, 1) := by decide +kernel
theorem dX11_alike_28 : decode cX11_alike 28 = .ok (.iload_n 2, 1) := by decide +kernel
theorem dX11_alike_29 : decode cX11_alike 29 = .ok (.iconst 1, 1) := by decide +kernel
theorem dX11_alike_30 : decode cX11_alike 30 = .ok (.iadd, 1) := by decide +kernel
theorem dX11_alike_31 : decode cX11_alike 31 = .ok (.istore 4, 2) := by decide +kernel
theorem dX11_alike_33 : decode cX11_alike 33 = .ok (.iload 4, 2) := by decide +kernel
theorem dX11_alike_35 : decode cX11_alike 35 = .ok (.aload_n 0, 1) := by decide +kernel
theorem dX11_alike_36 : decode cX11_alike 36 = .ok (.getfield 19, 3) := by decide +kernel
theorem dX11_alike_39 : decode cX11_alike 39 = .ok (.getfield 169, 3) := by decide +kernel
theorem dX11_alike_42 : decode cX11_alike 42 = .ok (.if_icmp .ge 29, 3) := by decide +kernel
theorem dX11_alike_45 : decode cX11_alike 45 = .ok (.aload_n 0, 1) := by decide +kernel
theorem dX11_alike_46 : decode cX11_alike 46 = .ok (.getfield 48, 3) := by decide +kernel
theorem dX11_alike_49 : decode cX11_alike 49 = .ok (.aload_n 0, 1) := by decide +kernel
theorem dX11_alike_50 : decode cX11_alike 50 = .ok (.getfield 64, 3) := by decide +kernel
theorem dX11_alike_53 : decode cX11_alike 53 = .ok (.iload 4, 2) := by decide +kernel
theorem dX11_alike_55 : decode cX11_alike 55 = .ok (.invokevirtual 165, 3) := by decide +kernel
theorem dX11_alike_58 : decode cX11_alike 58 = .ok (.iload_n 3, 1) := by decide +kernel
theorem dX11_alike_59 : decode cX11_alike 59 = .ok (.if_icmp .ne 6, 3) := by decide +kernel
theorem dX11_alike_62 : decode cX11_alike 62 = .ok (.iinc 1 1, 3) := by decide +kernel
theorem dX11_alike_65 : decode cX11_alike 65 = .ok (.iinc 4 1, 3) := by decide +kernel
theorem dX11_alike_68 : decode cX11_alike 68 = .ok (.goto (-35), 3) := by decide +kernel
theorem dX11_alike_71 : decode cX11_alike 71 = .ok (.iinc 2 1, 3) := by decide +kernel
theorem dX11_alike_74 : decode cX11_alike 74 = .ok (.goto (-70), 3) := by decide +kernel
theorem dX11_alike_77 : decode cX11_alike 77 = .ok (.iload_n 1, 1) := by decide +kernel
theorem dX11_alike_78 : decode cX11_alike 78 = .ok (.ireturn, 1) := by decide +kernel
set_option maxRecDepth 20000 in
theorem ggX11_see_X11_isTown : GoodIn wsX11_see wsX11_isTown := goodIn_r _ [10, 3, 11, 40, 41, 42, 43, 44, 45, 46, 47, 48, 49, 50, 51, 52, 53, 54, 63, 64, 65, 66, 67, 68, 69, 70, 71, 72, 73, 74, 75] (by decide +kernel) (by decide +kernel)
set_option maxRecDepth 20000 in
theorem gX11_see_X11_isTown : GoodIn wsX11_see (wsV RX11 156 RX11 yX11_isTown wsX11_isTown) := goodIn_app (goodIn_of _ (by decide +kernel)) ggX11_see_X11_isTown
set_option maxRecDepth 20000 in
theorem ggX11_see_X2_unreadLet : GoodIn wsX11_see wsX2_unreadLet := goodIn_r _ [16, 17, 18, 19, 20, 21, 22, 23, 24, 25, 26, 27, 28, 29, 30, 31, 32, 63, 64, 65, 66, 67, 68, 69, 70, 71, 72, 73, 74, 75, 76, 77, 78] (by decide +kernel) (by decide +kernel)
set_option maxRecDepth 20000 in
theorem gX11_see_X2_unreadLet : GoodIn wsX11_see (wsV RX11 310 RX2 yX2_unreadLet wsX2_unreadLet) := goodIn_app (goodIn_of _ (by decide +kernel)) ggX11_see_X2_unreadLet
set_option maxRecDepth 20000 in
theorem ggX11_see_X6_add : GoodIn wsX11_see wsX6_add := goodIn_r _ [37, 38, 39, 55, 56] (by decide +kernel) (by decide +kernel)
set_option maxRecDepth 20000 in
theorem gX11_see_X6_add : GoodIn wsX11_see (wsV RX11 313 RX6 yX6_add wsX6_add) := goodIn_app (goodIn_of _ (by decide +kernel)) ggX11_see_X6_add
theorem dX11_see_0 : decode cX11_see 0 = .ok (.aload_n 0, 1) := by decide +kernel
theorem dX11_see_1 : decode cX11_see 1 = .ok (.iload_n 1, 1) := by decide +kernel
theorem dX11_see_2 : decode cX11_see 2 = .ok (.invokevirtual 156, 3) := by decide +kernel
theorem dX11_see_5 : decode cX11_see 5 = .ok (.ifCond .eq 15, 3) := by decide +kernel
theorem dX11_see_8 : decode cX11_see 8 = .ok (.aload_n 0, 1) := by decide +kernel
theorem dX11_see_9 : decode cX11_see 9 = .ok (.getfield 74, 3) := by decide +kernel
theorem dX11_see_12 : decode cX11_see 12 = .ok (.getfield 192, 3) := by decide +kernel
theorem dX11_see_15 : decode cX11_see 15 = .ok (.bipush 8, 2) := by decide +kernel
theorem dX11_see_17 : decode cX11_see 17 = .ok (.if_icmp .lt 5, 3) := by decide +kernel
theorem dX11_see_20 : decode cX11_see 20 = .ok (.iconst 0, 1) := by decide +kernel
theorem dX11_see_21 : decode cX11_see 21 = .ok (.ireturn, 1) := by decide +kernel
theorem dX11_see_22 : decode cX11_see 22 = .ok (.aload_n 0, 1) := by decide +kernel
theorem dX11_see_23 : decode cX11_see 23 = .ok (.getfield 19, 3) := by decide +kernel
theorem dX11_see_26 : decode cX11_see 26 = .ok (.iload_n 1, 1) := by decide +kernel
theorem dX11_see_27 : decode cX11_see 27 = .ok (.aload_n 0, 1) := by decide +kernel
theorem dX11_see_28 : decode cX11_see 28 = .ok (.getfield 64, 3) := by decide +kernel
theorem dX11_see_31 : decode cX11_see 31 = .ok (.getfield 181, 3) := by decide +kernel
theorem dX11_see_34 : decode cX11_see 34 = .ok (.invokevirtual 310, 3) := by decide +kernel
theorem dX11_see_37 : decode cX11_see 37 = .ok (.istore_n 3, 1) := by decide +kernel
theorem dX11_see_38 : decode cX11_see 38 = .ok (.aload_n 0, 1) := by decide +kernel
theorem dX11_see_39 : decode cX11_see 39 = .ok (.getfield 74, 3) := by decide +kernel
theorem dX11_see_42 : decode cX11_see 42 = .ok (.iload_n 2, 1) := by decide +kernel
theorem dX11_see_43 : decode cX11_see 43 = .ok (.ifCond .eq 7, 3) := by decide +kernel
theorem dX11_see_46 : decode cX11_see 46 = .ok (.iload_n 3, 1) := by decide +kernel
theorem dX11_see_47 : decode cX11_see 47 = .ok (.goto 6, 3) := by decide +kernel
theorem dX11_see_50 : decode cX11_see 50 = .ok (.iload_n 3, 1) := by decide +kernel
theorem dX11_see_51 : decode cX11_see 51 = .ok (.iconst (-1), 1) := by decide +kernel
theorem dX11_see_52 : decode cX11_see 52 = .ok (.ixor, 1) := by decide +kernel
theorem dX11_see_53 : decode cX11_see 53 = .ok (.invokevirtual 313, 3) := by decide +kernel
theorem dX11_see_56 : decode cX11_see 56 = .ok (.iconst 1, 1) := by decide +kernel
theorem dX11_see_57 : decode cX11_see 57 = .ok (.ireturn, 1) := by decide +kernel
set_option maxRecDepth 20000 in
theorem ggX11_lengths_J6_bitCount_0f7a4 : GoodIn wsX11_lengths wsJ6_bitCount_0f7a4 := goodIn_r _ [6, 7, 8, 9] (by decide +kernel) (by decide +kernel)
set_option maxRecDepth 20000 in
theorem gX11_lengths_J6_bitCount_0f7a4 : GoodIn wsX11_lengths (va_wsS RX11 305 yJ6_bitCount_0f7a4 wsJ6_bitCount_0f7a4) := goodIn_app (goodIn_of _ (by decide +kernel)) ggX11_lengths_J6_bitCount_0f7a4
set_option maxRecDepth 20000 in
theorem ggX11_lengths_J6_numberOfTrailingZeros_0f7a4 : GoodIn wsX11_lengths wsJ6_numberOfTrailingZeros_0f7a4 := goodIn_r _ [12, 13] (by decide +kernel) (by decide +kernel)
set_option maxRecDepth 20000 in
theorem gX11_lengths_J6_numberOfTrailingZeros_0f7a4 : GoodIn wsX11_lengths (va_wsS RX11 319 yJ6_numberOfTrailingZeros_0f7a4 wsJ6_numberOfTrailingZeros_0f7a4) := goodIn_app (goodIn_of _ (by decide +kernel)) ggX11_lengths_J6_numberOfTrailingZeros_0f7a4
set_option maxRecDepth 20000 in
theorem ggX11_lengths_J6_numberOfLeadingZeros_0f7a4 : GoodIn wsX11_lengths wsJ6_numberOfLeadingZeros_0f7a4 := goodIn_r _ [16, 13] (by decide +kernel) (by decide +kernel)
set_option maxRecDepth 20000 in
theorem gX11_lengths_J6_numberOfLeadingZeros_0f7a4 : GoodIn wsX11_lengths (va_wsS RX11 322 yJ6_numberOfLeadingZeros_0f7a4 wsJ6_numberOfLeadingZeros_0f7a4) := goodIn_app (goodIn_of _ (by decide +kernel)) ggX11_lengths_J6_numberOfLeadingZeros_0f7a4
theorem dX11_lengths_0 : decode cX11_lengths 0 = .ok (.aload_n 0, 1) := by decide +kernel
theorem dX11_lengths_1 : decode cX11_lengths 1 = .ok (.getfield 74, 3) := by decide +kernel
theorem dX11_lengths_4 : decode cX11_lengths 4 = .ok (.getfield 316, 3) := by decide +kernel
theorem dX11_lengths_7 : decode cX11_lengths 7 = .ok (.istore_n 2, 1) := by decide +kernel
theorem dX11_lengths_8 : decode cX11_lengths 8 = .ok (.iload_n 1, 1) := by decide +kernel
theorem dX11_lengths_9 : decode cX11_lengths 9 = .ok (.tableswitch 61 0 2 #[27, 32, 45], 27) := by decide +kernel
theorem dX11_lengths_36 : decode cX11_lengths 36 = .ok (.iload_n 2, 1) := by decide +kernel
theorem dX11_lengths_37 : decode cX11_lengths 37 = .ok (.invokestatic 305, 3) := by decide +kernel
theorem dX11_lengths_40 : decode cX11_lengths 40 = .ok (.ireturn, 1) := by decide +kernel
theorem dX11_lengths_41 : decode cX11_lengths 41 = .ok (.iload_n 2, 1) := by decide +kernel
theorem dX11_lengths_42 : decode cX11_lengths 42 = .ok (.ifCond .ne 7, 3) := by decide +kernel
theorem dX11_lengths_45 : decode cX11_lengths 45 = .ok (.iconst (-1), 1) := by decide +kernel
theorem dX11_lengths_46 : decode cX11_lengths 46 = .ok (.goto 7, 3) := by decide +kernel
theorem dX11_lengths_49 : decode cX11_lengths 49 = .ok (.iload_n 2, 1) := by decide +kernel
theorem dX11_lengths_50 : decode cX11_lengths 50 = .ok (.invokestatic 319, 3) := by decide +kernel
theorem dX11_lengths_53 : decode cX11_lengths 53 = .ok (.ireturn, 1) := by decide +kernel
theorem dX11_lengths_54 : decode cX11_lengths 54 = .ok (.iload_n 2, 1) := by decide +kernel
theorem dX11_lengths_55 : decode cX11_lengths 55 = .ok (.ifCond .ne 7, 3) := by decide +kernel
theorem dX11_lengths_58 : decode cX11_lengths 58 = .ok (.iconst (-1), 1) := by decide +kernel
theorem dX11_lengths_59 : decode cX11_lengths 59 = .ok (.goto 10, 3) := by decide +kernel
theorem dX11_lengths_62 : decode cX11_lengths 62 = .ok (.bipush 31, 2) := by decide +kernel
theorem dX11_lengths_64 : decode cX11_lengths 64 = .ok (.iload_n 2, 1) := by decide +kernel
theorem dX11_lengths_65 : decode cX11_lengths 65 = .ok (.invokestatic 322, 3) := by decide +kernel
theorem dX11_lengths_68 : decode cX11_lengths 68 = .ok (.isub, 1) := by decide +kernel
theorem dX11_lengths_69 : decode cX11_lengths 69 = .ok (.ireturn, 1) := by decide +kernel
theorem dX11_lengths_70 : decode cX11_lengths 70 = .ok (.iconst (-1), 1) := by decide +kernel
theorem dX11_lengths_71 : decode cX11_lengths 71 = .ok (.ireturn, 1) := by decide +kernel
set_option maxRecDepth 20000 in
theorem ggX11_ask_J6_bitCount_0f7a4 : GoodIn wsX11_ask wsJ6_bitCount_0f7a4 := goodIn_r _ [14, 15, 16, 17] (by decide +kernel) (by decide +kernel)
set_option maxRecDepth 20000 in
theorem gX11_ask_J6_bitCount_0f7a4 : GoodIn wsX11_ask (va_wsS RX11 305 yJ6_bitCount_0f7a4 wsJ6_bitCount_0f7a4) := goodIn_app (goodIn_of _ (by decide +kernel)) ggX11_ask_J6_bitCount_0f7a4
set_option maxRecDepth 20000 in
theorem ggX11_ask_X2_unreadLet : GoodIn wsX11_ask wsX2_unreadLet := goodIn_r _ [22, 23, 24, 25, 26, 27, 28, 29, 30, 31, 32, 33, 34, 35, 36, 37, 38, 56, 57, 58, 59, 60, 61, 62, 63, 64, 65, 66, 67, 68, 75, 76, 77] (by decide +kernel) (by decide +kernel)
set_option maxRecDepth 20000 in
theorem gX11_ask_X2_unreadLet : GoodIn wsX11_ask (wsV RX11 310 RX2 yX2_unreadLet wsX2_unreadLet) := goodIn_app (goodIn_of _ (by decide +kernel)) ggX11_ask_X2_unreadLet
theorem dX11_ask_0 : decode cX11_ask 0 = .ok (.aload_n 0, 1) := by decide +kernel
theorem dX11_ask_1 : decode cX11_ask 1 = .ok (.getfield 74, 3) := by decide +kernel
theorem dX11_ask_4 : decode cX11_ask 4 = .ok (.getfield 316, 3) := by decide +kernel
theorem dX11_ask_7 : decode cX11_ask 7 = .ok (.istore_n 1, 1) := by decide +kernel
theorem dX11_ask_8 : decode cX11_ask 8 = .ok (.iload_n 1, 1) := by decide +kernel
theorem dX11_ask_9 : decode cX11_ask 9 = .ok (.invokestatic 305, 3) := by decide +kernel
theorem dX11_ask_12 : decode cX11_ask 12 = .ok (.istore_n 2, 1) := by decide +kernel
theorem dX11_ask_13 : decode cX11_ask 13 = .ok (.iconst (-1), 1) := by decide +kernel
theorem dX11_ask_14 : decode cX11_ask 14 = .ok (.istore_n 3, 1) := by decide +kernel
theorem dX11_ask_15 : decode cX11_ask 15 = .ok (.iload_n 2, 1) := by decide +kernel
theorem dX11_ask_16 : decode cX11_ask 16 = .ok (.istore 4, 2) := by decide +kernel
theorem dX11_ask_18 : decode cX11_ask 18 = .ok (.iconst 0, 1) := by decide +kernel
theorem dX11_ask_19 : decode cX11_ask 19 = .ok (.istore 5, 2) := by decide +kernel
theorem dX11_ask_21 : decode cX11_ask 21 = .ok (.iload 5, 2) := by decide +kernel
theorem dX11_ask_23 : decode cX11_ask 23 = .ok (.aload_n 0, 1) := by decide +kernel
theorem dX11_ask_24 : decode cX11_ask 24 = .ok (.getfield 19, 3) := by decide +kernel
theorem dX11_ask_27 : decode cX11_ask 27 = .ok (.getfield 169, 3) := by decide +kernel
theorem dX11_ask_30 : decode cX11_ask 30 = .ok (.if_icmp .ge 57, 3) := by decide +kernel
theorem dX11_ask_33 : decode cX11_ask 33 = .ok (.iload_n 1, 1) := by decide +kernel
theorem dX11_ask_34 : decode cX11_ask 34 = .ok (.aload_n 0, 1) := by decide +kernel
theorem dX11_ask_35 : decode cX11_ask 35 = .ok (.getfield 19, 3) := by decide +kernel
theorem dX11_ask_38 : decode cX11_ask 38 = .ok (.iload 5, 2) := by decide +kernel
theorem dX11_ask_40 : decode cX11_ask 40 = .ok (.aload_n 0, 1) := by decide +kernel
theorem dX11_ask_41 : decode cX11_ask 41 = .ok (.getfield 64, 3) := by decide +kernel
theorem dX11_ask_44 : decode cX11_ask 44 = .ok (.getfield 181, 3) := by decide +kernel
theorem dX11_ask_47 : decode cX11_ask 47 = .ok (.invokevirtual 310, 3) := by decide +kernel
theorem dX11_ask_50 : decode cX11_ask 50 = .ok (.iand, 1) := by decide +kernel
theorem dX11_ask_51 : decode cX11_ask 51 = .ok (.invokestatic 305, 3) := by decide +kernel
theorem dX11_ask_54 : decode cX11_ask 54 = .ok (.istore 6, 2) := by decide +kernel
theorem dX11_ask_56 : decode cX11_ask 56 = .ok (.iload 6, 2) := by decide +kernel
theorem dX11_ask_58 : decode cX11_ask 58 = .ok (.iload_n 2, 1) := by decide +kernel
theorem dX11_ask_59 : decode cX11_ask 59 = .ok (.iload 6, 2) := by decide +kernel
theorem dX11_ask_61 : decode cX11_ask 61 = .ok (.isub, 1) := by decide +kernel
theorem dX11_ask_62 : decode cX11_ask 62 = .ok (.invokestatic 284, 3) := by decide +kernel
theorem dX11_ask_65 : decode cX11_ask 65 = .ok (.istore 7, 2) := by decide +kernel
theorem dX11_ask_67 : decode cX11_ask 67 = .ok (.iload 7, 2) := by decide +kernel
theorem dX11_ask_69 : decode cX11_ask 69 = .ok (.iload 4, 2) := by decide +kernel
theorem dX11_ask_71 : decode cX11_ask 71 = .ok (.if_icmp .ge 10, 3) := by decide +kernel
theorem dX11_ask_74 : decode cX11_ask 74 = .ok (.iload 7, 2) := by decide +kernel
theorem dX11_ask_76 : decode cX11_ask 76 = .ok (.istore 4, 2) := by decide +kernel
theorem dX11_ask_78 : decode cX11_ask 78 = .ok (.iload 5, 2) := by decide +kernel
theorem dX11_ask_80 : decode cX11_ask 80 = .ok (.istore_n 3, 1) := by decide +kernel
theorem dX11_ask_81 : decode cX11_ask 81 = .ok (.iinc 5 1, 3) := by decide +kernel
theorem dX11_ask_84 : decode cX11_ask 84 = .ok (.goto (-63), 3) := by decide +kernel
theorem dX11_ask_87 : decode cX11_ask 87 = .ok (.iload_n 3, 1) := by decide +kernel
theorem dX11_ask_88 : decode cX11_ask 88 = .ok (.ireturn, 1) := by decide +kernel
set_option maxRecDepth 20000 in
theorem ggX11_rests_X11_isStake : GoodIn wsX11_rests wsX11_isStake := goodIn_r _ [6] (by decide +kernel) (by decide +kernel)
set_option maxRecDepth 20000 in
theorem gX11_rests_X11_isStake : GoodIn wsX11_rests (va_wsS RX11 325 yX11_isStake wsX11_isStake) := goodIn_app (goodIn_of _ (by decide +kernel)) ggX11_rests_X11_isStake
set_option maxRecDepth 20000 in
theorem ggX11_rests_X11_isAtRest : GoodIn wsX11_rests wsX11_isAtRest := goodIn_r _ [9, 10, 11, 5, 12, 13, 14, 15] (by decide +kernel) (by decide +kernel)
set_option maxRecDepth 20000 in
theorem gX11_rests_X11_isAtRest : GoodIn wsX11_rests (va_wsS RX11 335 yX11_isAtRest wsX11_isAtRest) := goodIn_app (goodIn_of _ (by decide +kernel)) ggX11_rests_X11_isAtRest
theorem dX11_rests_0 : decode cX11_rests 0 = .ok (.iload_n 1, 1) := by decide +kernel
theorem dX11_rests_1 : decode cX11_rests 1 = .ok (.invokestatic 325, 3) := by decide +kernel
theorem dX11_rests_4 : decode cX11_rests 4 = .ok (.ifCond .eq 15, 3) := by decide +kernel
theorem dX11_rests_7 : decode cX11_rests 7 = .ok (.iload_n 2, 1) := by decide +kernel
theorem dX11_rests_8 : decode cX11_rests 8 = .ok (.invokestatic 325, 3) := by decide +kernel
theorem dX11_rests_11 : decode cX11_rests 11 = .ok (.ifCond .eq 8, 3) := by decide +kernel
theorem dX11_rests_14 : decode cX11_rests 14 = .ok (.iload_n 3, 1) := by decide +kernel
theorem dX11_rests_15 : decode cX11_rests 15 = .ok (.iconst (-1), 1) := by decide +kernel
theorem dX11_rests_16 : decode cX11_rests 16 = .ok (.if_icmp .ge 14, 3) := by decide +kernel
theorem dX11_rests_19 : decode cX11_rests 19 = .ok (.new 328, 3) := by decide +kernel
theorem dX11_rests_22 : decode cX11_rests 22 = .ok (.dup, 1) := by decide +kernel
theorem dX11_rests_23 : decode cX11_rests 23 = .ok (.ldc_w 330, 3) := by decide +kernel
theorem dX11_rests_26 : decode cX11_rests 26 = .ok (.invokespecial 332, 3) := by decide +kernel
theorem dX11_rests_29 : decode cX11_rests 29 = .ok (.athrow, 1) := by decide +kernel
theorem dX11_rests_30 : decode cX11_rests 30 = .ok (.iconst 0, 1) := by decide +kernel
theorem dX11_rests_31 : decode cX11_rests 31 = .ok (.istore 4, 2) := by decide +kernel
theorem dX11_rests_33 : decode cX11_rests 33 = .ok (.iconst 0, 1) := by decide +kernel
theorem dX11_rests_34 : decode cX11_rests 34 = .ok (.istore 5, 2) := by decide +kernel
theorem dX11_rests_36 : decode cX11_rests 36 = .ok (.iload 5, 2) := by decide +kernel
theorem dX11_rests_38 : decode cX11_rests 38 = .ok (.iconst 4, 1) := by decide +kernel
theorem dX11_rests_39 : decode cX11_rests 39 = .ok (.if_icmp .ge 31, 3) := by decide +kernel
theorem dX11_rests_42 : decode cX11_rests 42 = .ok (.iload_n 1, 1) := by decide +kernel
theorem dX11_rests_43 : decode cX11_rests 43 = .ok (.iload_n 2, 1) := by decide +kernel
theorem dX11_rests_44 : decode cX11_rests 44 = .ok (.iload 5, 2) := by decide +kernel
theorem dX11_rests_46 : decode cX11_rests 46 = .ok (.invokestatic 335, 3) := by decide +kernel
theorem dX11_rests_49 : decode cX11_rests 49 = .ok (.ifCond .eq 15, 3) := by decide +kernel
theorem dX11_rests_52 : decode cX11_rests 52 = .ok (.iload 4, 2) := by decide +kernel
theorem dX11_rests_54 : decode cX11_rests 54 = .ok (.iload_n 3, 1) := by decide +kernel
theorem dX11_rests_55 : decode cX11_rests 55 = .ok (.if_icmp .ne 6, 3) := by decide +kernel
theorem dX11_rests_58 : decode cX11_rests 58 = .ok (.iload 5, 2) := by decide +kernel
theorem dX11_rests_60 : decode cX11_rests 60 = .ok (.ireturn, 1) := by decide +kernel
theorem dX11_rests_61 : decode cX11_rests 61 = .ok (.iinc 4 1, 3) := by decide +kernel
theorem dX11_rests_64 : decode cX11_rests 64 = .ok (.iinc 5 1, 3) := by decide +kernel
theorem dX11_rests_67 : decode cX11_rests 67 = .ok (.goto (-31), 3) := by decide +kernel
theorem dX11_rests_70 : decode cX11_rests 70 = .ok (.iload_n 3, 1) := by decide +kernel
theorem dX11_rests_71 : decode cX11_rests 71 = .ok (.iconst (-1), 1) := by decide +kernel
theorem dX11_rests_72 : decode cX11_rests 72 = .ok (.if_icmp .eq 14, 3) := by decide +kernel
theorem dX11_rests_75 : decode cX11_rests 75 = .ok (.new 328, 3) := by decide +kernel
theorem dX11_rests_78 : decode cX11_rests 78 = .ok (.dup, 1) := by decide +kernel
theorem dX11_rests_79 : decode cX11_rests 79 = .ok (.ldc_w 339, 3) := by decide +kernel
theorem dX11_rests_82 : decode cX11_rests 82 = .ok (.invokespecial 332, 3) := by decide +kernel
theorem dX11_rests_85 : decode cX11_rests 85 = .ok (.athrow, 1) := by decide +kernel
theorem dX11_rests_86 : decode cX11_rests 86 = .ok (.iload 4, 2) := by decide +kernel
theorem dX11_rests_88 : decode cX11_rests 88 = .ok (.ireturn, 1) := by decide +kernel
theorem dX11_isStake_0 : decode cX11_isStake 0 = .ok (.iload_n 0, 1) := by decide +kernel
theorem dX11_isStake_1 : decode cX11_isStake 1 = .ok (.ifCond .lt 13, 3) := by decide +kernel
theorem dX11_isStake_4 : decode cX11_isStake 4 = .ok (.iload_n 0, 1) := by decide +kernel
theorem dX11_isStake_5 : decode cX11_isStake 5 = .ok (.bipush 9, 2) := by decide +kernel
theorem dX11_isStake_7 : decode cX11_isStake 7 = .ok (.if_icmp .gt 7, 3) := by decide +kernel
theorem dX11_isStake_10 : decode cX11_isStake 10 = .ok (.iconst 1, 1) := by decide +kernel
theorem dX11_isStake_11 : decode cX11_isStake 11 = .ok (.goto 4, 3) := by decide +kernel
theorem dX11_isStake_14 : decode cX11_isStake 14 = .ok (.iconst 0, 1) := by decide +kernel
theorem dX11_isStake_15 : decode cX11_isStake 15 = .ok (.ireturn, 1) := by decide +kernel
set_option maxRecDepth 20000 in
theorem ggX11_isAtRest_X11_guardGets : GoodIn wsX11_isAtRest wsX11_guardGets := goodIn_r _ [4] (by decide +kernel) (by decide +kernel)
set_option maxRecDepth 20000 in
theorem gX11_isAtRest_X11_guardGets : GoodIn wsX11_isAtRest (va_wsS RX11 341 yX11_guardGets wsX11_guardGets) := goodIn_app (goodIn_of _ (by decide +kernel)) ggX11_isAtRest_X11_guardGets
set_option maxRecDepth 20000 in
theorem ggX11_isAtRest_X11_travellerGets : GoodIn wsX11_isAtRest wsX11_travellerGets := goodIn_r _ [7] (by decide +kernel) (by decide +kernel)
set_option maxRecDepth 20000 in
theorem gX11_isAtRest_X11_travellerGets : GoodIn wsX11_isAtRest (va_wsS RX11 345 yX11_travellerGets wsX11_travellerGets) := goodIn_app (goodIn_of _ (by decide +kernel)) ggX11_isAtRest_X11_travellerGets
theorem dX11_isAtRest_0 : decode cX11_isAtRest 0 = .ok (.iload_n 0, 1) := by decide +kernel
theorem dX11_isAtRest_1 : decode cX11_isAtRest 1 = .ok (.iload_n 1, 1) := by decide +kernel
theorem dX11_isAtRest_2 : decode cX11_isAtRest 2 = .ok (.iload_n 2, 1) := by decide +kernel
theorem dX11_isAtRest_3 : decode cX11_isAtRest 3 = .ok (.iconst 2, 1) := by decide +kernel
theorem dX11_isAtRest_4 : decode cX11_isAtRest 4 = .ok (.ixor, 1) := by decide +kernel
theorem dX11_isAtRest_5 : decode cX11_isAtRest 5 = .ok (.invokestatic 341, 3) := by decide +kernel
theorem dX11_isAtRest_8 : decode cX11_isAtRest 8 = .ok (.iload_n 0, 1) := by decide +kernel
theorem dX11_isAtRest_9 : decode cX11_isAtRest 9 = .ok (.iload_n 1, 1) := by decide +kernel
theorem dX11_isAtRest_10 : decode cX11_isAtRest 10 = .ok (.iload_n 2, 1) := by decide +kernel
theorem dX11_isAtRest_11 : decode cX11_isAtRest 11 = .ok (.invokestatic 341, 3) := by decide +kernel
theorem dX11_isAtRest_14 : decode cX11_isAtRest 14 = .ok (.if_icmp .gt 24, 3) := by decide +kernel
theorem dX11_isAtRest_17 : decode cX11_isAtRest 17 = .ok (.iload_n 0, 1) := by decide +kernel
theorem dX11_isAtRest_18 : decode cX11_isAtRest 18 = .ok (.iload_n 1, 1) := by decide +kernel
theorem dX11_isAtRest_19 : decode cX11_isAtRest 19 = .ok (.iload_n 2, 1) := by decide +kernel
theorem dX11_isAtRest_20 : decode cX11_isAtRest 20 = .ok (.iconst 1, 1) := by decide +kernel
theorem dX11_isAtRest_21 : decode cX11_isAtRest 21 = .ok (.ixor, 1) := by decide +kernel
theorem dX11_isAtRest_22 : decode cX11_isAtRest 22 = .ok (.invokestatic 345, 3) := by decide +kernel
theorem dX11_isAtRest_25 : decode cX11_isAtRest 25 = .ok (.iload_n 0, 1) := by decide +kernel
theorem dX11_isAtRest_26 : decode cX11_isAtRest 26 = .ok (.iload_n 1, 1) := by decide +kernel
theorem dX11_isAtRest_27 : decode cX11_isAtRest 27 = .ok (.iload_n 2, 1) := by decide +kernel
theorem dX11_isAtRest_28 : decode cX11_isAtRest 28 = .ok (.invokestatic 345, 3) := by decide +kernel
theorem dX11_isAtRest_31 : decode cX11_isAtRest 31 = .ok (.if_icmp .gt 7, 3) := by decide +kernel
theorem dX11_isAtRest_34 : decode cX11_isAtRest 34 = .ok (.iconst 1, 1) := by decide +kernel
theorem dX11_isAtRest_35 : decode cX11_isAtRest 35 = .ok (.goto 4, 3) := by decide +kernel
theorem dX11_isAtRest_38 : decode cX11_isAtRest 38 = .ok (.iconst 0, 1) := by decide +kernel
theorem dX11_isAtRest_39 : decode cX11_isAtRest 39 = .ok (.ireturn, 1) := by decide +kernel
theorem dX11_guardGets_0 : decode cX11_guardGets 0 = .ok (.iload_n 2, 1) := by decide +kernel
theorem dX11_guardGets_1 : decode cX11_guardGets 1 = .ok (.tableswitch 34 1 3 #[27, 30, 32], 27) := by decide +kernel
theorem dX11_guardGets_28 : decode cX11_guardGets 28 = .ok (.iload_n 1, 1) := by decide +kernel
theorem dX11_guardGets_29 : decode cX11_guardGets 29 = .ok (.ineg, 1) := by decide +kernel
theorem dX11_guardGets_30 : decode cX11_guardGets 30 = .ok (.ireturn, 1) := by decide +kernel
theorem dX11_guardGets_31 : decode cX11_guardGets 31 = .ok (.iconst (-1), 1) := by decide +kernel
theorem dX11_guardGets_32 : decode cX11_guardGets 32 = .ok (.ireturn, 1) := by decide +kernel
theorem dX11_guardGets_33 : decode cX11_guardGets 33 = .ok (.iload_n 0, 1) := by decide +kernel
theorem dX11_guardGets_34 : decode cX11_guardGets 34 = .ok (.ireturn, 1) := by decide +kernel
theorem dX11_guardGets_35 : decode cX11_guardGets 35 = .ok (.iconst 0, 1) := by decide +kernel
theorem dX11_guardGets_36 : decode cX11_guardGets 36 = .ok (.ireturn, 1) := by decide +kernel
theorem dX11_travellerGets_0 : decode cX11_travellerGets 0 = .ok (.iload_n 2, 1) := by decide +kernel
theorem dX11_travellerGets_1 : decode cX11_travellerGets 1 = .ok (.lookupswitch 32 #[(1, 27), (3, 29)], 27) := by decide +kernel
theorem dX11_travellerGets_28 : decode cX11_travellerGets 28 = .ok (.iload_n 1, 1) := by decide +kernel
theorem dX11_travellerGets_29 : decode cX11_travellerGets 29 = .ok (.ireturn, 1) := by decide +kernel
theorem dX11_travellerGets_30 : decode cX11_travellerGets 30 = .ok (.iload_n 0, 1) := by decide +kernel
theorem dX11_travellerGets_31 : decode cX11_travellerGets 31 = .ok (.ineg, 1) := by decide +kernel
theorem dX11_travellerGets_32 : decode cX11_travellerGets 32 = .ok (.ireturn, 1) := by decide +kernel
theorem dX11_travellerGets_33 : decode cX11_travellerGets 33 = .ok (.iconst 0, 1) := by decide +kernel
theorem dX11_travellerGets_34 : decode cX11_travellerGets 34 = .ok (.ireturn, 1) := by decide +kernel
set_option maxRecDepth 20000 in
theorem ggX11_years_X8_copy : GoodIn wsX11_years wsX8_copy := goodIn_r _ [13, 14, 15, 16, 17, 18, 19, 20, 21, 22, 23, 128, 129, 130, 131, 132, 133] (by decide +kernel) (by decide +kernel)
set_option maxRecDepth 20000 in
theorem gX11_years_X8_copy : GoodIn wsX11_years (wsV RX11 221 RX8 yX8_copy wsX8_copy) := goodIn_app (goodIn_of _ (by decide +kernel)) ggX11_years_X8_copy
set_option maxRecDepth 20000 in
theorem ggX11_years_X11_nextDraw : GoodIn wsX11_years wsX11_nextDraw := goodIn_r _ [27, 28, 29, 30] (by decide +kernel) (by decide +kernel)
set_option maxRecDepth 20000 in
theorem gX11_years_X11_nextDraw : GoodIn wsX11_years (va_wsS RX11 348 yX11_nextDraw wsX11_nextDraw) := goodIn_app (goodIn_of _ (by decide +kernel)) ggX11_years_X11_nextDraw
set_option maxRecDepth 20000 in
theorem ggX11_years_X11_below : GoodIn wsX11_years wsX11_below := goodIn_r _ [33, 34] (by decide +kernel) (by decide +kernel)
set_option maxRecDepth 20000 in
theorem gX11_years_X11_below : GoodIn wsX11_years (va_wsS RX11 352 yX11_below wsX11_below) := goodIn_app (goodIn_of _ (by decide +kernel)) ggX11_years_X11_below
set_option maxRecDepth 20000 in
theorem ggX11_years_X0_canGo : GoodIn wsX11_years wsX0_canGo := goodIn_r _ [39, 40, 41, 42, 43, 26, 44, 45, 46, 47, 38, 48, 49, 50, 51, 52, 53, 54, 55, 56, 57, 58, 59, 60, 61, 62, 63, 64, 65, 66, 67, 68, 69, 70, 71, 72, 73, 74, 75, 76, 77, 134, 115, 116, 117, 118, 119, 120, 121, 122, 123, 124, 125, 126, 127, 128, 129, 130, 131, 132, 133, 135, 136, 137] (by decide +kernel) (by decide +kernel)
set_option maxRecDepth 20000 in
theorem gX11_years_X0_canGo : GoodIn wsX11_years (wsV RX11 195 RX0 yX0_canGo wsX0_canGo) := goodIn_app (goodIn_of _ (by decide +kernel)) ggX11_years_X0_canGo
set_option maxRecDepth 20000 in
theorem ggX11_years_X8_arrive : GoodIn wsX11_years wsX8_arrive := goodIn_r _ [81, 15, 23, 128, 129, 130, 131, 132, 133] (by decide +kernel) (by decide +kernel)
set_option maxRecDepth 20000 in
theorem gX11_years_X8_arrive : GoodIn wsX11_years (wsV RX11 202 RX8 yX8_arrive wsX8_arrive) := goodIn_app (goodIn_of _ (by decide +kernel)) ggX11_years_X8_arrive
set_option maxRecDepth 20000 in
theorem ggX11_years_X11_has : GoodIn wsX11_years wsX11_has := goodIn_r _ [44] (by decide +kernel) (by decide +kernel)
set_option maxRecDepth 20000 in
theorem gX11_years_X11_has : GoodIn wsX11_years (va_wsS RX11 277 yX11_has wsX11_has) := goodIn_app (goodIn_of _ (by decide +kernel)) ggX11_years_X11_has
set_option maxRecDepth 20000 in
theorem ggX11_years_X8_loseBeard : GoodIn wsX11_years wsX8_loseBeard := goodIn_r _ [86, 20, 21, 128, 129, 130, 131, 132, 133] (by decide +kernel) (by decide +kernel)
set_option maxRecDepth 20000 in
theorem gX11_years_X8_loseBeard : GoodIn wsX11_years (wsV RX11 213 RX8 yX8_loseBeard wsX8_loseBeard) := goodIn_app (goodIn_of _ (by decide +kernel)) ggX11_years_X8_loseBeard
set_option maxRecDepth 20000 in
theorem ggX11_years_X0_passWeek : GoodIn wsX11_years wsX0_passWeek := goodIn_r _ [90, 63, 40, 54, 49, 62, 91, 92, 93, 94, 95, 128, 129, 130, 131, 132, 133, 134, 115, 116, 117, 118, 119, 120, 121, 122, 123, 124, 125, 126, 127] (by decide +kernel) (by decide +kernel)
set_option maxRecDepth 20000 in
theorem gX11_years_X0_passWeek : GoodIn wsX11_years (wsV RX11 217 RX0 yX0_passWeek wsX0_passWeek) := goodIn_app (goodIn_of _ (by decide +kernel)) ggX11_years_X0_passWeek
set_option maxRecDepth 20000 in
theorem ggX11_years_X8_peopled : GoodIn wsX11_years wsX8_peopled := goodIn_r _ [99, 15, 128, 129, 130, 131, 132, 133] (by decide +kernel) (by decide +kernel)
set_option maxRecDepth 20000 in
theorem gX11_years_X8_peopled : GoodIn wsX11_years (wsV RX11 184 RX8 yX8_peopled wsX8_peopled) := goodIn_app (goodIn_of _ (by decide +kernel)) ggX11_years_X8_peopled
theorem dX11_years_0 : decode cX11_years 0 = .ok (.iload_n 1, 1) := by decide +kernel
theorem dX11_years_1 : decode cX11_years 1 = .ok (.ifCond .lt 30, 3) := by decide +kernel
theorem dX11_years_4 : decode cX11_years 4 = .ok (.iload_n 1, 1) := by decide +kernel
theorem dX11_years_5 : decode cX11_years 5 = .ok (.sipush 9999, 3) := by decide +kernel
theorem dX11_years_8 : decode cX11_years 8 = .ok (.if_icmp .gt 23, 3) := by decide +kernel
theorem dX11_years_11 : decode cX11_years 11 = .ok (.iload_n 2, 1) := by decide +kernel
theorem dX11_years_12 : decode cX11_years 12 = .ok (.iconst 1, 1) := by decide +kernel
theorem dX11_years_13 : decode cX11_years 13 = .ok (.if_icmp .lt 18, 3) := by decide +kernel
theorem dX11_years_16 : decode cX11_years 16 = .ok (.iload_n 2, 1) := by decide +kernel
theorem dX11_years_17 : decode cX11_years 17 = .ok (.bipush 99, 2) := by decide +kernel
theorem dX11_years_19 : decode cX11_years 19 = .ok (.if_icmp .gt 12, 3) := by decide +kernel
theorem dX11_years_22 : decode cX11_years 22 = .ok (.iload_n 3, 1) := by decide +kernel
theorem dX11_years_23 : decode cX11_years 23 = .ok (.ifCond .lt 8, 3) := by decide +kernel
theorem dX11_years_26 : decode cX11_years 26 = .ok (.iload_n 3, 1) := by decide +kernel
theorem dX11_years_27 : decode cX11_years 27 = .ok (.iconst 2, 1) := by decide +kernel
theorem dX11_years_28 : decode cX11_years 28 = .ok (.if_icmp .le 5, 3) := by decide +kernel
theorem dX11_years_31 : decode cX11_years 31 = .ok (.iconst (-1), 1) := by decide +kernel
theorem dX11_years_32 : decode cX11_years 32 = .ok (.ireturn, 1) := by decide +kernel
theorem dX11_years_33 : decode cX11_years 33 = .ok (.aload_n 0, 1) := by decide +kernel
theorem dX11_years_34 : decode cX11_years 34 = .ok (.getfield 68, 3) := by decide +kernel
theorem dX11_years_37 : decode cX11_years 37 = .ok (.aload_n 0, 1) := by decide +kernel
theorem dX11_years_38 : decode cX11_years 38 = .ok (.getfield 64, 3) := by decide +kernel
theorem dX11_years_41 : decode cX11_years 41 = .ok (.invokevirtual 221, 3) := by decide +kernel
theorem dX11_years_44 : decode cX11_years 44 = .ok (.iload_n 1, 1) := by decide +kernel
theorem dX11_years_45 : decode cX11_years 45 = .ok (.i2l, 1) := by decide +kernel
theorem dX11_years_46 : decode cX11_years 46 = .ok (.lstore 4, 2) := by decide +kernel
theorem dX11_years_48 : decode cX11_years 48 = .ok (.iconst 0, 1) := by decide +kernel
theorem dX11_years_49 : decode cX11_years 49 = .ok (.istore 6, 2) := by decide +kernel
theorem dX11_years_51 : decode cX11_years 51 = .ok (.iconst 0, 1) := by decide +kernel
theorem dX11_years_52 : decode cX11_years 52 = .ok (.istore 7, 2) := by decide +kernel
theorem dX11_years_54 : decode cX11_years 54 = .ok (.iconst 0, 1) := by decide +kernel
theorem dX11_years_55 : decode cX11_years 55 = .ok (.istore 8, 2) := by decide +kernel
theorem dX11_years_57 : decode cX11_years 57 = .ok (.iload 8, 2) := by decide +kernel
theorem dX11_years_59 : decode cX11_years 59 = .ok (.iload_n 2, 1) := by decide +kernel
theorem dX11_years_60 : decode cX11_years 60 = .ok (.if_icmp .ge 152, 3) := by decide +kernel
theorem dX11_years_63 : decode cX11_years 63 = .ok (.iconst 0, 1) := by decide +kernel
theorem dX11_years_64 : decode cX11_years 64 = .ok (.istore 9, 2) := by decide +kernel
theorem dX11_years_66 : decode cX11_years 66 = .ok (.iload 9, 2) := by decide +kernel
theorem dX11_years_68 : decode cX11_years 68 = .ok (.aload_n 0, 1) := by decide +kernel
theorem dX11_years_69 : decode cX11_years 69 = .ok (.getfield 19, 3) := by decide +kernel
theorem dX11_years_72 : decode cX11_years 72 = .ok (.getfield 172, 3) := by decide +kernel
theorem dX11_years_75 : decode cX11_years 75 = .ok (.if_icmp .ge 120, 3) := by decide +kernel
theorem dX11_years_78 : decode cX11_years 78 = .ok (.lload 4, 2) := by decide +kernel
theorem dX11_years_80 : decode cX11_years 80 = .ok (.invokestatic 348, 3) := by decide +kernel
theorem dX11_years_83 : decode cX11_years 83 = .ok (.lstore 4, 2) := by decide +kernel
theorem dX11_years_85 : decode cX11_years 85 = .ok (.lload 4, 2) := by decide +kernel
theorem dX11_years_87 : decode cX11_years 87 = .ok (.aload_n 0, 1) := by decide +kernel
theorem dX11_years_88 : decode cX11_years 88 = .ok (.getfield 19, 3) := by decide +kernel
theorem dX11_years_91 : decode cX11_years 91 = .ok (.getfield 169, 3) := by decide +kernel
theorem dX11_years_94 : decode cX11_years 94 = .ok (.invokestatic 352, 3) := by decide +kernel
theorem dX11_years_97 : decode cX11_years 97 = .ok (.istore 10, 2) := by decide +kernel
theorem dX11_years_99 : decode cX11_years 99 = .ok (.aload_n 0, 1) := by decide +kernel
theorem dX11_years_100 : decode cX11_years 100 = .ok (.getfield 48, 3) := by decide +kernel
theorem dX11_years_103 : decode cX11_years 103 = .ok (.aload_n 0, 1) := by decide +kernel
theorem dX11_years_104 : decode cX11_years 104 = .ok (.getfield 68, 3) := by decide +kernel
theorem dX11_years_107 : decode cX11_years 107 = .ok (.iload 9, 2) := by decide +kernel
theorem dX11_years_109 : decode cX11_years 109 = .ok (.iload 10, 2) := by decide +kernel
theorem dX11_years_111 : decode cX11_years 111 = .ok (.invokevirtual 195, 3) := by decide +kernel
theorem dX11_years_114 : decode cX11_years 114 = .ok (.ifCond .eq 20, 3) := by decide +kernel
theorem dX11_years_117 : decode cX11_years 117 = .ok (.aload_n 0, 1) := by decide +kernel
theorem dX11_years_118 : decode cX11_years 118 = .ok (.getfield 68, 3) := by decide +kernel
theorem dX11_years_121 : decode cX11_years 121 = .ok (.iload 9, 2) := by decide +kernel
theorem dX11_years_123 : decode cX11_years 123 = .ok (.iload 10, 2) := by decide +kernel
theorem dX11_years_125 : decode cX11_years 125 = .ok (.invokevirtual 202, 3) := by decide +kernel
theorem dX11_years_128 : decode cX11_years 128 = .ok (.iinc 6 1, 3) := by decide +kernel
theorem dX11_years_131 : decode cX11_years 131 = .ok (.goto 32, 3) := by decide +kernel
theorem dX11_years_134 : decode cX11_years 134 = .ok (.aload_n 0, 1) := by decide +kernel
theorem dX11_years_135 : decode cX11_years 135 = .ok (.getfield 19, 3) := by decide +kernel
theorem dX11_years_138 : decode cX11_years 138 = .ok (.getfield 162, 3) := by decide +kernel
theorem dX11_years_141 : decode cX11_years 141 = .ok (.aload_n 0, 1) := by decide +kernel
theorem dX11_years_142 : decode cX11_years 142 = .ok (.getfield 68, 3) := by decide +kernel
theorem dX11_years_145 : decode cX11_years 145 = .ok (.getfield 141, 3) := by decide +kernel
theorem dX11_years_148 : decode cX11_years 148 = .ok (.iload 9, 2) := by decide +kernel
theorem dX11_years_150 : decode cX11_years 150 = .ok (.iaload, 1) := by decide +kernel
theorem dX11_years_151 : decode cX11_years 151 = .ok (.iaload, 1) := by decide +kernel
theorem dX11_years_152 : decode cX11_years 152 = .ok (.iload 10, 2) := by decide +kernel
theorem dX11_years_154 : decode cX11_years 154 = .ok (.invokestatic 277, 3) := by decide +kernel
theorem dX11_years_157 : decode cX11_years 157 = .ok (.ifCond .eq 6, 3) := by decide +kernel
theorem dX11_years_160 : decode cX11_years 160 = .ok (.iinc 7 1, 3) := by decide +kernel
theorem dX11_years_163 : decode cX11_years 163 = .ok (.lload 4, 2) := by decide +kernel
theorem dX11_years_165 : decode cX11_years 165 = .ok (.invokestatic 348, 3) := by decide +kernel
theorem dX11_years_168 : decode cX11_years 168 = .ok (.lstore 4, 2) := by decide +kernel
theorem dX11_years_170 : decode cX11_years 170 = .ok (.lload 4, 2) := by decide +kernel
theorem dX11_years_172 : decode cX11_years 172 = .ok (.bipush 20, 2) := by decide +kernel
theorem dX11_years_174 : decode cX11_years 174 = .ok (.invokestatic 352, 3) := by decide +kernel
theorem dX11_years_177 : decode cX11_years 177 = .ok (.ifCond .ne 12, 3) := by decide +kernel
theorem dX11_years_180 : decode cX11_years 180 = .ok (.aload_n 0, 1) := by decide +kernel
theorem dX11_years_181 : decode cX11_years 181 = .ok (.getfield 68, 3) := by decide +kernel
theorem dX11_years_184 : decode cX11_years 184 = .ok (.iload 9, 2) := by decide +kernel
theorem dX11_years_186 : decode cX11_years 186 = .ok (.invokevirtual 213, 3) := by decide +kernel
theorem dX11_years_189 : decode cX11_years 189 = .ok (.iinc 9 1, 3) := by decide +kernel
theorem dX11_years_192 : decode cX11_years 192 = .ok (.goto (-126), 3) := by decide +kernel
theorem dX11_years_195 : decode cX11_years 195 = .ok (.aload_n 0, 1) := by decide +kernel
theorem dX11_years_196 : decode cX11_years 196 = .ok (.getfield 48, 3) := by decide +kernel
theorem dX11_years_199 : decode cX11_years 199 = .ok (.aload_n 0, 1) := by decide +kernel
theorem dX11_years_200 : decode cX11_years 200 = .ok (.getfield 68, 3) := by decide +kernel
theorem dX11_years_203 : decode cX11_years 203 = .ok (.invokevirtual 217, 3) := by decide +kernel
theorem dX11_years_206 : decode cX11_years 206 = .ok (.iinc 8 1, 3) := by decide +kernel
theorem dX11_years_209 : decode cX11_years 209 = .ok (.goto (-152), 3) := by decide +kernel
theorem dX11_years_212 : decode cX11_years 212 = .ok (.iload_n 3, 1) := by decide +kernel
theorem dX11_years_213 : decode cX11_years 213 = .ok (.iconst 2, 1) := by decide +kernel
theorem dX11_years_214 : decode cX11_years 214 = .ok (.if_icmp .ne 18, 3) := by decide +kernel
theorem dX11_years_217 : decode cX11_years 217 = .ok (.aload_n 0, 1) := by decide +kernel
theorem dX11_years_218 : decode cX11_years 218 = .ok (.getfield 68, 3) := by decide +kernel
theorem dX11_years_221 : decode cX11_years 221 = .ok (.aload_n 0, 1) := by decide +kernel
theorem dX11_years_222 : decode cX11_years 222 = .ok (.getfield 19, 3) := by decide +kernel
theorem dX11_years_225 : decode cX11_years 225 = .ok (.getfield 172, 3) := by decide +kernel
theorem dX11_years_228 : decode cX11_years 228 = .ok (.invokevirtual 184, 3) := by decide +kernel
theorem dX11_years_231 : decode cX11_years 231 = .ok (.ireturn, 1) := by decide +kernel
theorem dX11_years_232 : decode cX11_years 232 = .ok (.iload_n 3, 1) := by decide +kernel
theorem dX11_years_233 : decode cX11_years 233 = .ok (.ifCond .ne 8, 3) := by decide +kernel
theorem dX11_years_236 : decode cX11_years 236 = .ok (.iload 6, 2) := by decide +kernel
theorem dX11_years_238 : decode cX11_years 238 = .ok (.goto 5, 3) := by decide +kernel
theorem dX11_years_241 : decode cX11_years 241 = .ok (.iload 7, 2) := by decide +kernel
theorem dX11_years_243 : decode cX11_years 243 = .ok (.ireturn, 1) := by decide +kernel
theorem dJ6_numberOfLeadingZeros_0f7a4_0 : decode cJ6_numberOfLeadingZeros_0f7a4 0 = .ok (.iload_n 0, 1) := by decide +kernel
theorem dJ6_numberOfLeadingZeros_0f7a4_1 : decode cJ6_numberOfLeadingZeros_0f7a4 1 = .ok (.ifCond .gt 14, 3) := by decide +kernel
theorem dJ6_numberOfLeadingZeros_0f7a4_4 : decode cJ6_numberOfLeadingZeros_0f7a4 4 = .ok (.iload_n 0, 1) := by decide +kernel
theorem dJ6_numberOfLeadingZeros_0f7a4_5 : decode cJ6_numberOfLeadingZeros_0f7a4 5 = .ok (.ifCond .ne 8, 3) := by decide +kernel
theorem dJ6_numberOfLeadingZeros_0f7a4_8 : decode cJ6_numberOfLeadingZeros_0f7a4 8 = .ok (.bipush 32, 2) := by decide +kernel
theorem dJ6_numberOfLeadingZeros_0f7a4_10 : decode cJ6_numberOfLeadingZeros_0f7a4 10 = .ok (.goto 4, 3) := by decide +kernel
theorem dJ6_numberOfLeadingZeros_0f7a4_13 : decode cJ6_numberOfLeadingZeros_0f7a4 13 = .ok (.iconst 0, 1) := by decide +kernel
theorem dJ6_numberOfLeadingZeros_0f7a4_14 : decode cJ6_numberOfLeadingZeros_0f7a4 14 = .ok (.ireturn, 1) := by decide +kernel
theorem dJ6_numberOfLeadingZeros_0f7a4_15 : decode cJ6_numberOfLeadingZeros_0f7a4 15 = .ok (.bipush 31, 2) := by decide +kernel
theorem dJ6_numberOfLeadingZeros_0f7a4_17 : decode cJ6_numberOfLeadingZeros_0f7a4 17 = .ok (.istore_n 1, 1) := by decide +kernel
theorem dJ6_numberOfLeadingZeros_0f7a4_18 : decode cJ6_numberOfLeadingZeros_0f7a4 18 = .ok (.iload_n 0, 1) := by decide +kernel
theorem dJ6_numberOfLeadingZeros_0f7a4_19 : decode cJ6_numberOfLeadingZeros_0f7a4 19 = .ok (.ldc_w 264, 3) := by decide +kernel
theorem dJ6_numberOfLeadingZeros_0f7a4_22 : decode cJ6_numberOfLeadingZeros_0f7a4 22 = .ok (.if_icmp .lt 11, 3) := by decide +kernel
theorem dJ6_numberOfLeadingZeros_0f7a4_25 : decode cJ6_numberOfLeadingZeros_0f7a4 25 = .ok (.iinc 1 (-16), 3) := by decide +kernel
theorem dJ6_numberOfLeadingZeros_0f7a4_28 : decode cJ6_numberOfLeadingZeros_0f7a4 28 = .ok (.iload_n 0, 1) := by decide +kernel
theorem dJ6_numberOfLeadingZeros_0f7a4_29 : decode cJ6_numberOfLeadingZeros_0f7a4 29 = .ok (.bipush 16, 2) := by decide +kernel
theorem dJ6_numberOfLeadingZeros_0f7a4_31 : decode cJ6_numberOfLeadingZeros_0f7a4 31 = .ok (.iushr, 1) := by decide +kernel
theorem dJ6_numberOfLeadingZeros_0f7a4_32 : decode cJ6_numberOfLeadingZeros_0f7a4 32 = .ok (.istore_n 0, 1) := by decide +kernel
theorem dJ6_numberOfLeadingZeros_0f7a4_33 : decode cJ6_numberOfLeadingZeros_0f7a4 33 = .ok (.iload_n 0, 1) := by decide +kernel
theorem dJ6_numberOfLeadingZeros_0f7a4_34 : decode cJ6_numberOfLeadingZeros_0f7a4 34 = .ok (.sipush 256, 3) := by decide +kernel
theorem dJ6_numberOfLeadingZeros_0f7a4_37 : decode cJ6_numberOfLeadingZeros_0f7a4 37 = .ok (.if_icmp .lt 11, 3) := by decide +kernel
theorem dJ6_numberOfLeadingZeros_0f7a4_40 : decode cJ6_numberOfLeadingZeros_0f7a4 40 = .ok (.iinc 1 (-8), 3) := by decide +kernel
theorem dJ6_numberOfLeadingZeros_0f7a4_43 : decode cJ6_numberOfLeadingZeros_0f7a4 43 = .ok (.iload_n 0, 1) := by decide +kernel
theorem dJ6_numberOfLeadingZeros_0f7a4_44 : decode cJ6_numberOfLeadingZeros_0f7a4 44 = .ok (.bipush 8, 2) := by decide +kernel
theorem dJ6_numberOfLeadingZeros_0f7a4_46 : decode cJ6_numberOfLeadingZeros_0f7a4 46 = .ok (.iushr, 1) := by decide +kernel
theorem dJ6_numberOfLeadingZeros_0f7a4_47 : decode cJ6_numberOfLeadingZeros_0f7a4 47 = .ok (.istore_n 0, 1) := by decide +kernel
theorem dJ6_numberOfLeadingZeros_0f7a4_48 : decode cJ6_numberOfLeadingZeros_0f7a4 48 = .ok (.iload_n 0, 1) := by decide +kernel
theorem dJ6_numberOfLeadingZeros_0f7a4_49 : decode cJ6_numberOfLeadingZeros_0f7a4 49 = .ok (.bipush 16, 2) := by decide +kernel
theorem dJ6_numberOfLeadingZeros_0f7a4_51 : decode cJ6_numberOfLeadingZeros_0f7a4 51 = .ok (.if_icmp .lt 10, 3) := by decide +kernel
theorem dJ6_numberOfLeadingZeros_0f7a4_54 : decode cJ6_numberOfLeadingZeros_0f7a4 54 = .ok (.iinc 1 (-4), 3) := by decide +kernel
theorem dJ6_numberOfLeadingZeros_0f7a4_57 : decode cJ6_numberOfLeadingZeros_0f7a4 57 = .ok (.iload_n 0, 1) := by decide +kernel
theorem dJ6_numberOfLeadingZeros_0f7a4_58 : decode cJ6_numberOfLeadingZeros_0f7a4 58 = .ok (.iconst 4, 1) := by decide +kernel
theorem dJ6_numberOfLeadingZeros_0f7a4_59 : decode cJ6_numberOfLeadingZeros_0f7a4 59 = .ok (.iushr, 1) := by decide +kernel
theorem dJ6_numberOfLeadingZeros_0f7a4_60 : decode cJ6_numberOfLeadingZeros_0f7a4 60 = .ok (.istore_n 0, 1) := by decide +kernel
theorem dJ6_numberOfLeadingZeros_0f7a4_61 : decode cJ6_numberOfLeadingZeros_0f7a4 61 = .ok (.iload_n 0, 1) := by decide +kernel
theorem dJ6_numberOfLeadingZeros_0f7a4_62 : decode cJ6_numberOfLeadingZeros_0f7a4 62 = .ok (.iconst 4, 1) := by decide +kernel
theorem dJ6_numberOfLeadingZeros_0f7a4_63 : decode cJ6_numberOfLeadingZeros_0f7a4 63 = .ok (.if_icmp .lt 10, 3) := by decide +kernel
theorem dJ6_numberOfLeadingZeros_0f7a4_66 : decode cJ6_numberOfLeadingZeros_0f7a4 66 = .ok (.iinc 1 (-2), 3) := by decide +kernel
theorem dJ6_numberOfLeadingZeros_0f7a4_69 : decode cJ6_numberOfLeadingZeros_0f7a4 69 = .ok (.iload_n 0, 1) := by decide +kernel
theorem dJ6_numberOfLeadingZeros_0f7a4_70 : decode cJ6_numberOfLeadingZeros_0f7a4 70 = .ok (.iconst 2, 1) := by decide +kernel
theorem dJ6_numberOfLeadingZeros_0f7a4_71 : decode cJ6_numberOfLeadingZeros_0f7a4 71 = .ok (.iushr, 1) := by decide +kernel
theorem dJ6_numberOfLeadingZeros_0f7a4_72 : decode cJ6_numberOfLeadingZeros_0f7a4 72 = .ok (.istore_n 0, 1) := by decide +kernel
theorem dJ6_numberOfLeadingZeros_0f7a4_73 : decode cJ6_numberOfLeadingZeros_0f7a4 73 = .ok (.iload_n 1, 1) := by decide +kernel
theorem dJ6_numberOfLeadingZeros_0f7a4_74 : decode cJ6_numberOfLeadingZeros_0f7a4 74 = .ok (.iload_n 0, 1) := by decide +kernel
theorem dJ6_numberOfLeadingZeros_0f7a4_75 : decode cJ6_numberOfLeadingZeros_0f7a4 75 = .ok (.iconst 1, 1) := by decide +kernel
theorem dJ6_numberOfLeadingZeros_0f7a4_76 : decode cJ6_numberOfLeadingZeros_0f7a4 76 = .ok (.iushr, 1) := by decide +kernel
theorem dJ6_numberOfLeadingZeros_0f7a4_77 : decode cJ6_numberOfLeadingZeros_0f7a4 77 = .ok (.isub, 1) := by decide +kernel
theorem dJ6_numberOfLeadingZeros_0f7a4_78 : decode cJ6_numberOfLeadingZeros_0f7a4 78 = .ok (.ireturn, 1) := by decide +kernel
theorem dJ6_numberOfTrailingZeros_0f7a4_0 : decode cJ6_numberOfTrailingZeros_0f7a4 0 = .ok (.iload_n 0, 1) := by decide +kernel
theorem dJ6_numberOfTrailingZeros_0f7a4_1 : decode cJ6_numberOfTrailingZeros_0f7a4 1 = .ok (.iconst (-1), 1) := by decide +kernel
theorem dJ6_numberOfTrailingZeros_0f7a4_2 : decode cJ6_numberOfTrailingZeros_0f7a4 2 = .ok (.ixor, 1) := by decide +kernel
theorem dJ6_numberOfTrailingZeros_0f7a4_3 : decode cJ6_numberOfTrailingZeros_0f7a4 3 = .ok (.iload_n 0, 1) := by decide +kernel
theorem dJ6_numberOfTrailingZeros_0f7a4_4 : decode cJ6_numberOfTrailingZeros_0f7a4 4 = .ok (.iconst 1, 1) := by decide +kernel
theorem dJ6_numberOfTrailingZeros_0f7a4_5 : decode cJ6_numberOfTrailingZeros_0f7a4 5 = .ok (.isub, 1) := by decide +kernel
theorem dJ6_numberOfTrailingZeros_0f7a4_6 : decode cJ6_numberOfTrailingZeros_0f7a4 6 = .ok (.iand, 1) := by decide +kernel
theorem dJ6_numberOfTrailingZeros_0f7a4_7 : decode cJ6_numberOfTrailingZeros_0f7a4 7 = .ok (.istore_n 0, 1) := by decide +kernel
theorem dJ6_numberOfTrailingZeros_0f7a4_8 : decode cJ6_numberOfTrailingZeros_0f7a4 8 = .ok (.iload_n 0, 1) := by decide +kernel
theorem dJ6_numberOfTrailingZeros_0f7a4_9 : decode cJ6_numberOfTrailingZeros_0f7a4 9 = .ok (.ifCond .gt 8, 3) := by decide +kernel
theorem dJ6_numberOfTrailingZeros_0f7a4_12 : decode cJ6_numberOfTrailingZeros_0f7a4 12 = .ok (.iload_n 0, 1) := by decide +kernel
theorem dJ6_numberOfTrailingZeros_0f7a4_13 : decode cJ6_numberOfTrailingZeros_0f7a4 13 = .ok (.bipush 32, 2) := by decide +kernel
theorem dJ6_numberOfTrailingZeros_0f7a4_15 : decode cJ6_numberOfTrailingZeros_0f7a4 15 = .ok (.iand, 1) := by decide +kernel
theorem dJ6_numberOfTrailingZeros_0f7a4_16 : decode cJ6_numberOfTrailingZeros_0f7a4 16 = .ok (.ireturn, 1) := by decide +kernel
theorem dJ6_numberOfTrailingZeros_0f7a4_17 : decode cJ6_numberOfTrailingZeros_0f7a4 17 = .ok (.iconst 1, 1) := by decide +kernel
theorem dJ6_numberOfTrailingZeros_0f7a4_18 : decode cJ6_numberOfTrailingZeros_0f7a4 18 = .ok (.istore_n 1, 1) := by decide +kernel
theorem dJ6_numberOfTrailingZeros_0f7a4_19 : decode cJ6_numberOfTrailingZeros_0f7a4 19 = .ok (.iload_n 0, 1) := by decide +kernel
theorem dJ6_numberOfTrailingZeros_0f7a4_20 : decode cJ6_numberOfTrailingZeros_0f7a4 20 = .ok (.ldc_w 264, 3) := by decide +kernel
theorem dJ6_numberOfTrailingZeros_0f7a4_23 : decode cJ6_numberOfTrailingZeros_0f7a4 23 = .ok (.if_icmp .le 11, 3) := by decide +kernel
theorem dJ6_numberOfTrailingZeros_0f7a4_26 : decode cJ6_numberOfTrailingZeros_0f7a4 26 = .ok (.iinc 1 16, 3) := by decide +kernel
theorem dJ6_numberOfTrailingZeros_0f7a4_29 : decode cJ6_numberOfTrailingZeros_0f7a4 29 = .ok (.iload_n 0, 1) := by decide +kernel
theorem dJ6_numberOfTrailingZeros_0f7a4_30 : decode cJ6_numberOfTrailingZeros_0f7a4 30 = .ok (.bipush 16, 2) := by decide +kernel
theorem dJ6_numberOfTrailingZeros_0f7a4_32 : decode cJ6_numberOfTrailingZeros_0f7a4 32 = .ok (.iushr, 1) := by decide +kernel
theorem dJ6_numberOfTrailingZeros_0f7a4_33 : decode cJ6_numberOfTrailingZeros_0f7a4 33 = .ok (.istore_n 0, 1) := by decide +kernel
theorem dJ6_numberOfTrailingZeros_0f7a4_34 : decode cJ6_numberOfTrailingZeros_0f7a4 34 = .ok (.iload_n 0, 1) := by decide +kernel
theorem dJ6_numberOfTrailingZeros_0f7a4_35 : decode cJ6_numberOfTrailingZeros_0f7a4 35 = .ok (.sipush 256, 3) := by decide +kernel
theorem dJ6_numberOfTrailingZeros_0f7a4_38 : decode cJ6_numberOfTrailingZeros_0f7a4 38 = .ok (.if_icmp .le 11, 3) := by decide +kernel
theorem dJ6_numberOfTrailingZeros_0f7a4_41 : decode cJ6_numberOfTrailingZeros_0f7a4 41 = .ok (.iinc 1 8, 3) := by decide +kernel
theorem dJ6_numberOfTrailingZeros_0f7a4_44 : decode cJ6_numberOfTrailingZeros_0f7a4 44 = .ok (.iload_n 0, 1) := by decide +kernel
theorem dJ6_numberOfTrailingZeros_0f7a4_45 : decode cJ6_numberOfTrailingZeros_0f7a4 45 = .ok (.bipush 8, 2) := by decide +kernel
theorem dJ6_numberOfTrailingZeros_0f7a4_47 : decode cJ6_numberOfTrailingZeros_0f7a4 47 = .ok (.iushr, 1) := by decide +kernel
theorem dJ6_numberOfTrailingZeros_0f7a4_48 : decode cJ6_numberOfTrailingZeros_0f7a4 48 = .ok (.istore_n 0, 1) := by decide +kernel
theorem dJ6_numberOfTrailingZeros_0f7a4_49 : decode cJ6_numberOfTrailingZeros_0f7a4 49 = .ok (.iload_n 0, 1) := by decide +kernel
theorem dJ6_numberOfTrailingZeros_0f7a4_50 : decode cJ6_numberOfTrailingZeros_0f7a4 50 = .ok (.bipush 16, 2) := by decide +kernel
theorem dJ6_numberOfTrailingZeros_0f7a4_52 : decode cJ6_numberOfTrailingZeros_0f7a4 52 = .ok (.if_icmp .le 10, 3) := by decide +kernel
theorem dJ6_numberOfTrailingZeros_0f7a4_55 : decode cJ6_numberOfTrailingZeros_0f7a4 55 = .ok (.iinc 1 4, 3) := by decide +kernel
theorem dJ6_numberOfTrailingZeros_0f7a4_58 : decode cJ6_numberOfTrailingZeros_0f7a4 58 = .ok (.iload_n 0, 1) := by decide +kernel
theorem dJ6_numberOfTrailingZeros_0f7a4_59 : decode cJ6_numberOfTrailingZeros_0f7a4 59 = .ok (.iconst 4, 1) := by decide +kernel
theorem dJ6_numberOfTrailingZeros_0f7a4_60 : decode cJ6_numberOfTrailingZeros_0f7a4 60 = .ok (.iushr, 1) := by decide +kernel
theorem dJ6_numberOfTrailingZeros_0f7a4_61 : decode cJ6_numberOfTrailingZeros_0f7a4 61 = .ok (.istore_n 0, 1) := by decide +kernel
theorem dJ6_numberOfTrailingZeros_0f7a4_62 : decode cJ6_numberOfTrailingZeros_0f7a4 62 = .ok (.iload_n 0, 1) := by decide +kernel
theorem dJ6_numberOfTrailingZeros_0f7a4_63 : decode cJ6_numberOfTrailingZeros_0f7a4 63 = .ok (.iconst 4, 1) := by decide +kernel
theorem dJ6_numberOfTrailingZeros_0f7a4_64 : decode cJ6_numberOfTrailingZeros_0f7a4 64 = .ok (.if_icmp .le 10, 3) := by decide +kernel
theorem dJ6_numberOfTrailingZeros_0f7a4_67 : decode cJ6_numberOfTrailingZeros_0f7a4 67 = .ok (.iinc 1 2, 3) := by decide +kernel
theorem dJ6_numberOfTrailingZeros_0f7a4_70 : decode cJ6_numberOfTrailingZeros_0f7a4 70 = .ok (.iload_n 0, 1) := by decide +kernel
theorem dJ6_numberOfTrailingZeros_0f7a4_71 : decode cJ6_numberOfTrailingZeros_0f7a4 71 = .ok (.iconst 2, 1) := by decide +kernel
theorem dJ6_numberOfTrailingZeros_0f7a4_72 : decode cJ6_numberOfTrailingZeros_0f7a4 72 = .ok (.iushr, 1) := by decide +kernel
theorem dJ6_numberOfTrailingZeros_0f7a4_73 : decode cJ6_numberOfTrailingZeros_0f7a4 73 = .ok (.istore_n 0, 1) := by decide +kernel
theorem dJ6_numberOfTrailingZeros_0f7a4_74 : decode cJ6_numberOfTrailingZeros_0f7a4 74 = .ok (.iload_n 1, 1) := by decide +kernel
theorem dJ6_numberOfTrailingZeros_0f7a4_75 : decode cJ6_numberOfTrailingZeros_0f7a4 75 = .ok (.iload_n 0, 1) := by decide +kernel
theorem dJ6_numberOfTrailingZeros_0f7a4_76 : decode cJ6_numberOfTrailingZeros_0f7a4 76 = .ok (.iconst 1, 1) := by decide +kernel
theorem dJ6_numberOfTrailingZeros_0f7a4_77 : decode cJ6_numberOfTrailingZeros_0f7a4 77 = .ok (.iushr, 1) := by decide +kernel
theorem dJ6_numberOfTrailingZeros_0f7a4_78 : decode cJ6_numberOfTrailingZeros_0f7a4 78 = .ok (.iadd, 1) := by decide +kernel
theorem dJ6_numberOfTrailingZeros_0f7a4_79 : decode cJ6_numberOfTrailingZeros_0f7a4 79 = .ok (.ireturn, 1) := by decide +kernel
theorem dJ6_bitCount_0f7a4_0 : decode cJ6_bitCount_0f7a4 0 = .ok (.iload_n 0, 1) := by decide +kernel
theorem dJ6_bitCount_0f7a4_1 : decode cJ6_bitCount_0f7a4 1 = .ok (.iload_n 0, 1) := by decide +kernel
theorem dJ6_bitCount_0f7a4_2 : decode cJ6_bitCount_0f7a4 2 = .ok (.iconst 1, 1) := by decide +kernel
theorem dJ6_bitCount_0f7a4_3 : decode cJ6_bitCount_0f7a4 3 = .ok (.iushr, 1) := by decide +kernel
theorem dJ6_bitCount_0f7a4_4 : decode cJ6_bitCount_0f7a4 4 = .ok (.ldc_w 265, 3) := by decide +kernel
theorem dJ6_bitCount_0f7a4_7 : decode cJ6_bitCount_0f7a4 7 = .ok (.iand, 1) := by decide +kernel
theorem dJ6_bitCount_0f7a4_8 : decode cJ6_bitCount_0f7a4 8 = .ok (.isub, 1) := by decide +kernel
theorem dJ6_bitCount_0f7a4_9 : decode cJ6_bitCount_0f7a4 9 = .ok (.istore_n 0, 1) := by decide +kernel
theorem dJ6_bitCount_0f7a4_10 : decode cJ6_bitCount_0f7a4 10 = .ok (.iload_n 0, 1) := by decide +kernel
theorem dJ6_bitCount_0f7a4_11 : decode cJ6_bitCount_0f7a4 11 = .ok (.ldc_w 266, 3) := by decide +kernel
theorem dJ6_bitCount_0f7a4_14 : decode cJ6_bitCount_0f7a4 14 = .ok (.iand, 1) := by decide +kernel
theorem dJ6_bitCount_0f7a4_15 : decode cJ6_bitCount_0f7a4 15 = .ok (.iload_n 0, 1) := by decide +kernel
theorem dJ6_bitCount_0f7a4_16 : decode cJ6_bitCount_0f7a4 16 = .ok (.iconst 2, 1) := by decide +kernel
theorem dJ6_bitCount_0f7a4_17 : decode cJ6_bitCount_0f7a4 17 = .ok (.iushr, 1) := by decide +kernel
theorem dJ6_bitCount_0f7a4_18 : decode cJ6_bitCount_0f7a4 18 = .ok (.ldc_w 266, 3) := by decide +kernel
theorem dJ6_bitCount_0f7a4_21 : decode cJ6_bitCount_0f7a4 21 = .ok (.iand, 1) := by decide +kernel
theorem dJ6_bitCount_0f7a4_22 : decode cJ6_bitCount_0f7a4 22 = .ok (.iadd, 1) := by decide +kernel
theorem dJ6_bitCount_0f7a4_23 : decode cJ6_bitCount_0f7a4 23 = .ok (.istore_n 0, 1) := by decide +kernel
theorem dJ6_bitCount_0f7a4_24 : decode cJ6_bitCount_0f7a4 24 = .ok (.iload_n 0, 1) := by decide +kernel
theorem dJ6_bitCount_0f7a4_25 : decode cJ6_bitCount_0f7a4 25 = .ok (.iload_n 0, 1) := by decide +kernel
theorem dJ6_bitCount_0f7a4_26 : decode cJ6_bitCount_0f7a4 26 = .ok (.iconst 4, 1) := by decide +kernel
theorem dJ6_bitCount_0f7a4_27 : decode cJ6_bitCount_0f7a4 27 = .ok (.iushr, 1) := by decide +kernel
theorem dJ6_bitCount_0f7a4_28 : decode cJ6_bitCount_0f7a4 28 = .ok (.iadd, 1) := by decide +kernel
theorem dJ6_bitCount_0f7a4_29 : decode cJ6_bitCount_0f7a4 29 = .ok (.ldc_w 267, 3) := by decide +kernel
theorem dJ6_bitCount_0f7a4_32 : decode cJ6_bitCount_0f7a4 32 = .ok (.iand, 1) := by decide +kernel
theorem dJ6_bitCount_0f7a4_33 : decode cJ6_bitCount_0f7a4 33 = .ok (.istore_n 0, 1) := by decide +kernel
theorem dJ6_bitCount_0f7a4_34 : decode cJ6_bitCount_0f7a4 34 = .ok (.iload_n 0, 1) := by decide +kernel
theorem dJ6_bitCount_0f7a4_35 : decode cJ6_bitCount_0f7a4 35 = .ok (.iload_n 0, 1) := by decide +kernel
theorem dJ6_bitCount_0f7a4_36 : decode cJ6_bitCount_0f7a4 36 = .ok (.bipush 8, 2) := by decide +kernel
theorem dJ6_bitCount_0f7a4_38 : decode cJ6_bitCount_0f7a4 38 = .ok (.iushr, 1) := by decide +kernel
theorem dJ6_bitCount_0f7a4_39 : decode cJ6_bitCount_0f7a4 39 = .ok (.iadd, 1) := by decide +kernel
theorem dJ6_bitCount_0f7a4_40 : decode cJ6_bitCount_0f7a4 40 = .ok (.istore_n 0, 1) := by decide +kernel
theorem dJ6_bitCount_0f7a4_41 : decode cJ6_bitCount_0f7a4 41 = .ok (.iload_n 0, 1) := by decide +kernel
theorem dJ6_bitCount_0f7a4_42 : decode cJ6_bitCount_0f7a4 42 = .ok (.iload_n 0, 1) := by decide +kernel
theorem dJ6_bitCount_0f7a4_43 : decode cJ6_bitCount_0f7a4 43 = .ok (.bipush 16, 2) := by decide +kernel
theorem dJ6_bitCount_0f7a4_45 : decode cJ6_bitCount_0f7a4 45 = .ok (.iushr, 1) := by decide +kernel
theorem dJ6_bitCount_0f7a4_46 : decode cJ6_bitCount_0f7a4 46 = .ok (.iadd, 1) := by decide +kernel
theorem dJ6_bitCount_0f7a4_47 : decode cJ6_bitCount_0f7a4 47 = .ok (.istore_n 0, 1) := by decide +kernel
theorem dJ6_bitCount_0f7a4_48 : decode cJ6_bitCount_0f7a4 48 = .ok (.iload_n 0, 1) := by decide +kernel
theorem dJ6_bitCount_0f7a4_49 : decode cJ6_bitCount_0f7a4 49 = .ok (.bipush 63, 2) := by decide +kernel
theorem dJ6_bitCount_0f7a4_51 : decode cJ6_bitCount_0f7a4 51 = .ok (.iand, 1) := by decide +kernel
theorem dJ6_bitCount_0f7a4_52 : decode cJ6_bitCount_0f7a4 52 = .ok (.ireturn, 1) := by decide +kernel
theorem dJ7_fill_53178_0 : decode cJ7_fill_53178 0 = .ok (.iconst 0, 1) := by decide +kernel
theorem dJ7_fill_53178_1 : decode cJ7_fill_53178 1 = .ok (.istore_n 2, 1) := by decide +kernel
theorem dJ7_fill_53178_2 : decode cJ7_fill_53178 2 = .ok (.aload_n 0, 1) := by decide +kernel
theorem dJ7_fill_53178_3 : decode cJ7_fill_53178 3 = .ok (.arraylength, 1) := by decide +kernel
theorem dJ7_fill_53178_4 : decode cJ7_fill_53178 4 = .ok (.istore_n 3, 1) := by decide +kernel
theorem dJ7_fill_53178_5 : decode cJ7_fill_53178 5 = .ok (.iload_n 2, 1) := by decide +kernel
theorem dJ7_fill_53178_6 : decode cJ7_fill_53178 6 = .ok (.iload_n 3, 1) := by decide +kernel
theorem dJ7_fill_53178_7 : decode cJ7_fill_53178 7 = .ok (.if_icmp .ge 13, 3) := by decide +kernel
theorem dJ7_fill_53178_10 : decode cJ7_fill_53178 10 = .ok (.aload_n 0, 1) := by decide +kernel
theorem dJ7_fill_53178_11 : decode cJ7_fill_53178 11 = .ok (.iload_n 2, 1) := by decide +kernel
theorem dJ7_fill_53178_12 : decode cJ7_fill_53178 12 = .ok (.iload_n 1, 1) := by decide +kernel
theorem dJ7_fill_53178_13 : decode cJ7_fill_53178 13 = .ok (.iastore, 1) := by decide +kernel
theorem dJ7_fill_53178_14 : decode cJ7_fill_53178 14 = .ok (.iinc 2 1, 3) := by decide +kernel
theorem dJ7_fill_53178_17 : decode cJ7_fill_53178 17 = .ok (.goto (-12), 3) := by decide +kernel
theorem dJ7_fill_53178_20 : decode cJ7_fill_53178 20 = .ok (.return_, 1) := by decide +kernel
