theorem dX8_copy_69 : decode cX8_copy 69 = .ok (.getfield 24, 3) := by decide +kernel
theorem dX8_copy_72 : decode cX8_copy 72 = .ok (.iconst 0, 1) := by decide +kernel
theorem dX8_copy_73 : decode cX8_copy 73 = .ok (.aload_n 0, 1) := by decide +kernel
theorem dX8_copy_74 : decode cX8_copy 74 = .ok (.getfield 24, 3) := by decide +kernel
theorem dX8_copy_77 : decode cX8_copy 77 = .ok (.iconst 0, 1) := by decide +kernel
theorem dX8_copy_78 : decode cX8_copy 78 = .ok (.bipush 6, 2) := by decide +kernel
theorem dX8_copy_80 : decode cX8_copy 80 = .ok (.invokestatic 41, 3) := by decide +kernel
theorem dX8_copy_83 : decode cX8_copy 83 = .ok (.return_, 1) := by decide +kernel
theorem dX8_arrive_0 : decode cX8_arrive 0 = .ok (.aload_n 0, 1) := by decide +kernel
theorem dX8_arrive_1 : decode cX8_arrive 1 = .ok (.getfield 9, 3) := by decide +kernel
theorem dX8_arrive_4 : decode cX8_arrive 4 = .ok (.iload_n 1, 1) := by decide +kernel
theorem dX8_arrive_5 : decode cX8_arrive 5 = .ok (.iload_n 2, 1) := by decide +kernel
theorem dX8_arrive_6 : decode cX8_arrive 6 = .ok (.iastore, 1) := by decide +kernel
theorem dX8_arrive_7 : decode cX8_arrive 7 = .ok (.aload_n 0, 1) := by decide +kernel
theorem dX8_arrive_8 : decode cX8_arrive 8 = .ok (.getfield 24, 3) := by decide +kernel
theorem dX8_arrive_11 : decode cX8_arrive 11 = .ok (.iload_n 1, 1) := by decide +kernel
theorem dX8_arrive_12 : decode cX8_arrive 12 = .ok (.dup2, 1) := by decide +kernel
theorem dX8_arrive_13 : decode cX8_arrive 13 = .ok (.iaload, 1) := by decide +kernel
theorem dX8_arrive_14 : decode cX8_arrive 14 = .ok (.iconst 1, 1) := by decide +kernel
theorem dX8_arrive_15 : decode cX8_arrive 15 = .ok (.iload_n 2, 1) := by decide +kernel
theorem dX8_arrive_16 : decode cX8_arrive 16 = .ok (.ishl, 1) := by decide +kernel
theorem dX8_arrive_17 : decode cX8_arrive 17 = .ok (.ior, 1) := by decide +kernel
theorem dX8_arrive_18 : decode cX8_arrive 18 = .ok (.iastore, 1) := by decide +kernel
theorem dX8_arrive_19 : decode cX8_arrive 19 = .ok (.return_, 1) := by decide +kernel
theorem dX8_loseBeard_0 : decode cX8_loseBeard 0 = .ok (.aload_n 0, 1) := by decide +kernel
theorem dX8_loseBeard_1 : decode cX8_loseBeard 1 = .ok (.getfield 15, 3) := by decide +kernel
theorem dX8_loseBeard_4 : decode cX8_loseBeard 4 = .ok (.iload_n 1, 1) := by decide +kernel
theorem dX8_loseBeard_5 : decode cX8_loseBeard 5 = .ok (.iconst 0, 1) := by decide +kernel
theorem dX8_loseBeard_6 : decode cX8_loseBeard 6 = .ok (.iastore, 1) := by decide +kernel
theorem dX8_loseBeard_7 : decode cX8_loseBeard 7 = .ok (.aload_n 0, 1) := by decide +kernel
theorem dX8_loseBeard_8 : decode cX8_loseBeard 8 = .ok (.getfield 18, 3) := by decide +kernel
theorem dX8_loseBeard_11 : decode cX8_loseBeard 11 = .ok (.iload_n 1, 1) := by decide +kernel
theorem dX8_loseBeard_12 : decode cX8_loseBeard 12 = .ok (.iconst 0, 1) := by decide +kernel
theorem dX8_loseBeard_13 : decode cX8_loseBeard 13 = .ok (.iastore, 1) := by decide +kernel
theorem dX8_loseBeard_14 : decode cX8_loseBeard 14 = .ok (.return_, 1) := by decide +kernel
theorem dX8_peopled_0 : decode cX8_peopled 0 = .ok (.iconst 0, 1) := by decide +kernel
theorem dX8_peopled_1 : decode cX8_peopled 1 = .ok (.istore_n 2, 1) := by decide +kernel
theorem dX8_peopled_2 : decode cX8_peopled 2 = .ok (.iconst 0, 1) := by decide +kernel
theorem dX8_peopled_3 : decode cX8_peopled 3 = .ok (.istore_n 3, 1) := by decide +kernel
theorem dX8_peopled_4 : decode cX8_peopled 4 = .ok (.iload_n 3, 1) := by decide +kernel
theorem dX8_peopled_5 : decode cX8_peopled 5 = .ok (.iload_n 1, 1) := by decide +kernel
theorem dX8_peopled_6 : decode cX8_peopled 6 = .ok (.if_icmp .ge 20, 3) := by decide +kernel
theorem dX8_peopled_9 : decode cX8_peopled 9 = .ok (.iload_n 2, 1) := by decide +kernel
theorem dX8_peopled_10 : decode cX8_peopled 10 = .ok (.iconst 1, 1) := by decide +kernel
theorem dX8_peopled_11 : decode cX8_peopled 11 = .ok (.aload_n 0, 1) := by decide +kernel
theorem dX8_peopled_12 : decode cX8_peopled 12 = .ok (.getfield 9, 3) := by decide +kernel
theorem dX8_peopled_15 : decode cX8_peopled 15 = .ok (.iload_n 3, 1) := by decide +kernel
theorem dX8_peopled_16 : decode cX8_peopled 16 = .ok (.iaload, 1) := by decide +kernel
theorem dX8_peopled_17 : decode cX8_peopled 17 = .ok (.ishl, 1) := by decide +kernel
theorem dX8_peopled_18 : decode cX8_peopled 18 = .ok (.ior, 1) := by decide +kernel
theorem dX8_peopled_19 : decode cX8_peopled 19 = .ok (.istore_n 2, 1) := by decide +kernel
theorem dX8_peopled_20 : decode cX8_peopled 20 = .ok (.iinc 3 1, 3) := by decide +kernel
theorem dX8_peopled_23 : decode cX8_peopled 23 = .ok (.goto (-19), 3) := by decide +kernel
theorem dX8_peopled_26 : decode cX8_peopled 26 = .ok (.iload_n 2, 1) := by decide +kernel
theorem dX8_peopled_27 : decode cX8_peopled 27 = .ok (.ireturn, 1) := by decide +kernel
theorem dX9_put_0 : decode cX9_put 0 = .ok (.bipush 56, 2) := by decide +kernel
theorem dX9_put_2 : decode cX9_put 2 = .ok (.istore_n 3, 1) := by decide +kernel
theorem dX9_put_3 : decode cX9_put 3 = .ok (.iload_n 3, 1) := by decide +kernel
theorem dX9_put_4 : decode cX9_put 4 = .ok (.ifCond .lt 84, 3) := by decide +kernel
theorem dX9_put_7 : decode cX9_put 7 = .ok (.lload_n 1, 1) := by decide +kernel
theorem dX9_put_8 : decode cX9_put 8 = .ok (.iload_n 3, 1) := by decide +kernel
theorem dX9_put_9 : decode cX9_put 9 = .ok (.lushr, 1) := by decide +kernel
theorem dX9_put_10 : decode cX9_put 10 = .ok (.ldc2_w 44, 3) := by decide +kernel
theorem dX9_put_13 : decode cX9_put 13 = .ok (.land, 1) := by decide +kernel
theorem dX9_put_14 : decode cX9_put 14 = .ok (.l2i, 1) := by decide +kernel
theorem dX9_put_15 : decode cX9_put 15 = .ok (.istore 4, 2) := by decide +kernel
theorem dX9_put_17 : decode cX9_put 17 = .ok (.iload 4, 2) := by decide +kernel
theorem dX9_put_19 : decode cX9_put 19 = .ok (.bipush 10, 2) := by decide +kernel
theorem dX9_put_21 : decode cX9_put 21 = .ok (.if_icmp .eq 17, 3) := by decide +kernel
theorem dX9_put_24 : decode cX9_put 24 = .ok (.iload 4, 2) := by decide +kernel
theorem dX9_put_26 : decode cX9_put 26 = .ok (.bipush 32, 2) := by decide +kernel
theorem dX9_put_28 : decode cX9_put 28 = .ok (.if_icmp .lt 14, 3) := by decide +kernel
theorem dX9_put_31 : decode cX9_put 31 = .ok (.iload 4, 2) := by decide +kernel
theorem dX9_put_33 : decode cX9_put 33 = .ok (.bipush 126, 2) := by decide +kernel
theorem dX9_put_35 : decode cX9_put 35 = .ok (.if_icmp .gt 7, 3) := by decide +kernel
theorem dX9_put_38 : decode cX9_put 38 = .ok (.iconst 1, 1) := by decide +kernel
theorem dX9_put_39 : decode cX9_put 39 = .ok (.goto 4, 3) := by decide +kernel
theorem dX9_put_42 : decode cX9_put 42 = .ok (.iconst 0, 1) := by decide +kernel
theorem dX9_put_43 : decode cX9_put 43 = .ok (.istore 5, 2) := by decide +kernel
theorem dX9_put_45 : decode cX9_put 45 = .ok (.iload 5, 2) := by decide +kernel
theorem dX9_put_47 : decode cX9_put 47 = .ok (.ifCond .eq 35, 3) := by decide +kernel
theorem dX9_put_50 : decode cX9_put 50 = .ok (.aload_n 0, 1) := by decide +kernel
theorem dX9_put_51 : decode cX9_put 51 = .ok (.getfield 15, 3) := by decide +kernel
theorem dX9_put_54 : decode cX9_put 54 = .ok (.sipush 1000, 3) := by decide +kernel
theorem dX9_put_57 : decode cX9_put 57 = .ok (.if_icmp .ge 25, 3) := by decide +kernel
theorem dX9_put_60 : decode cX9_put 60 = .ok (.aload_n 0, 1) := by decide +kernel
theorem dX9_put_61 : decode cX9_put 61 = .ok (.getfield 9, 3) := by decide +kernel
theorem dX9_put_64 : decode cX9_put 64 = .ok (.aload_n 0, 1) := by decide +kernel
theorem dX9_put_65 : decode cX9_put 65 = .ok (.getfield 15, 3) := by decide +kernel
theorem dX9_put_68 : decode cX9_put 68 = .ok (.iload 4, 2) := by decide +kernel
theorem dX9_put_70 : decode cX9_put 70 = .ok (.i2c, 1) := by decide +kernel
theorem dX9_put_71 : decode cX9_put 71 = .ok (.castore, 1) := by decide +kernel
theorem dX9_put_72 : decode cX9_put 72 = .ok (.aload_n 0, 1) := by decide +kernel
theorem dX9_put_73 : decode cX9_put 73 = .ok (.dup, 1) := by decide +kernel
theorem dX9_put_74 : decode cX9_put 74 = .ok (.getfield 15, 3) := by decide +kernel
theorem dX9_put_77 : decode cX9_put 77 = .ok (.iconst 1, 1) := by decide +kernel
theorem dX9_put_78 : decode cX9_put 78 = .ok (.iadd, 1) := by decide +kernel
theorem dX9_put_79 : decode cX9_put 79 = .ok (.putfield 15, 3) := by decide +kernel
theorem dX9_put_82 : decode cX9_put 82 = .ok (.iinc 3 (-8), 3) := by decide +kernel
theorem dX9_put_85 : decode cX9_put 85 = .ok (.goto (-82), 3) := by decide +kernel
theorem dX9_put_88 : decode cX9_put 88 = .ok (.return_, 1) := by decide +kernel
theorem dX9_begin_0 : decode cX9_begin 0 = .ok (.aload_n 0, 1) := by decide +kernel
theorem dX9_begin_1 : decode cX9_begin 1 = .ok (.iconst 0, 1) := by decide +kernel
theorem dX9_begin_2 : decode cX9_begin 2 = .ok (.putfield 22, 3) := by decide +kernel
theorem dX9_begin_5 : decode cX9_begin 5 = .ok (.aload_n 0, 1) := by decide +kernel
theorem dX9_begin_6 : decode cX9_begin 6 = .ok (.iconst 0, 1) := by decide +kernel
theorem dX9_begin_7 : decode cX9_begin 7 = .ok (.putfield 41, 3) := by decide +kernel
theorem dX9_begin_10 : decode cX9_begin 10 = .ok (.aload_n 0, 1) := by decide +kernel
theorem dX9_begin_11 : decode cX9_begin 11 = .ok (.invokevirtual 46, 3) := by decide +kernel
theorem dX9_begin_14 : decode cX9_begin 14 = .ok (.return_, 1) := by decide +kernel
theorem dX9_step_0 : decode cX9_step 0 = .ok (.aload_n 0, 1) := by decide +kernel
theorem dX9_step_1 : decode cX9_step 1 = .ok (.getfield 22, 3) := by decide +kernel
theorem dX9_step_4 : decode cX9_step 4 = .ok (.aload_n 0, 1) := by decide +kernel
theorem dX9_step_5 : decode cX9_step 5 = .ok (.getfield 15, 3) := by decide +kernel
theorem dX9_step_8 : decode cX9_step 8 = .ok (.if_icmp .ge 44, 3) := by decide +kernel
theorem dX9_step_11 : decode cX9_step 11 = .ok (.aload_n 0, 1) := by decide +kernel
theorem dX9_step_12 : decode cX9_step 12 = .ok (.getfield 9, 3) := by decide +kernel
theorem dX9_step_15 : decode cX9_step 15 = .ok (.aload_n 0, 1) := by decide +kernel
theorem dX9_step_16 : decode cX9_step 16 = .ok (.getfield 22, 3) := by decide +kernel
theorem dX9_step_19 : decode cX9_step 19 = .ok (.caload, 1) := by decide +kernel
theorem dX9_step_20 : decode cX9_step 20 = .ok (.bipush 32, 2) := by decide +kernel
theorem dX9_step_22 : decode cX9_step 22 = .ok (.if_icmp .eq 17, 3) := by decide +kernel
theorem dX9_step_25 : decode cX9_step 25 = .ok (.aload_n 0, 1) := by decide +kernel
theorem dX9_step_26 : decode cX9_step 26 = .ok (.getfield 9, 3) := by decide +kernel
theorem dX9_step_29 : decode cX9_step 29 = .ok (.aload_n 0, 1) := by decide +kernel
theorem dX9_step_30 : decode cX9_step 30 = .ok (.getfield 22, 3) := by decide +kernel
theorem dX9_step_33 : decode cX9_step 33 = .ok (.caload, 1) := by decide +kernel
theorem dX9_step_34 : decode cX9_step 34 = .ok (.bipush 10, 2) := by decide +kernel
theorem dX9_step_36 : decode cX9_step 36 = .ok (.if_icmp .ne 16, 3) := by decide +kernel
theorem dX9_step_39 : decode cX9_step 39 = .ok (.aload_n 0, 1) := by decide +kernel
theorem dX9_step_40 : decode cX9_step 40 = .ok (.dup, 1) := by decide +kernel
theorem dX9_step_41 : decode cX9_step 41 = .ok (.getfield 22, 3) := by decide +kernel
theorem dX9_step_44 : decode cX9_step 44 = .ok (.iconst 1, 1) := by decide +kernel
theorem dX9_step_45 : decode cX9_step 45 = .ok (.iadd, 1) := by decide +kernel
theorem dX9_step_46 : decode cX9_step 46 = .ok (.putfield 22, 3) := by decide +kernel
theorem dX9_step_49 : decode cX9_step 49 = .ok (.goto (-49), 3) := by decide +kernel
theorem dX9_step_52 : decode cX9_step 52 = .ok (.aload_n 0, 1) := by decide +kernel
theorem dX9_step_53 : decode cX9_step 53 = .ok (.aload_n 0, 1) := by decide +kernel
theorem dX9_step_54 : decode cX9_step 54 = .ok (.getfield 22, 3) := by decide +kernel
theorem dX9_step_57 : decode cX9_step 57 = .ok (.putfield 19, 3) := by decide +kernel
theorem dX9_step_60 : decode cX9_step 60 = .ok (.aload_n 0, 1) := by decide +kernel
theorem dX9_step_61 : decode cX9_step 61 = .ok (.getfield 22, 3) := by decide +kernel
theorem dX9_step_64 : decode cX9_step 64 = .ok (.aload_n 0, 1) := by decide +kernel
theorem dX9_step_65 : decode cX9_step 65 = .ok (.getfield 15, 3) := by decide +kernel
theorem dX9_step_68 : decode cX9_step 68 = .ok (.if_icmp .lt 13, 3) := by decide +kernel
theorem dX9_step_71 : decode cX9_step 71 = .ok (.aload_n 0, 1) := by decide +kernel
theorem dX9_step_72 : decode cX9_step 72 = .ok (.getstatic 25, 3) := by decide +kernel
theorem dX9_step_75 : decode cX9_step 75 = .ok (.putfield 31, 3) := by decide +kernel
theorem dX9_step_78 : decode cX9_step 78 = .ok (.goto 125, 3) := by decide +kernel
theorem dX9_step_81 : decode cX9_step 81 = .ok (.aload_n 0, 1) := by decide +kernel
theorem dX9_step_82 : decode cX9_step 82 = .ok (.getfield 9, 3) := by decide +kernel
theorem dX9_step_85 : decode cX9_step 85 = .ok (.aload_n 0, 1) := by decide +kernel
theorem dX9_step_86 : decode cX9_step 86 = .ok (.getfield 22, 3) := by decide +kernel
theorem dX9_step_89 : decode cX9_step 89 = .ok (.caload, 1) := by decide +kernel
theorem dX9_step_90 : decode cX9_step 90 = .ok (.invokestatic 49, 3) := by decide +kernel
theorem dX9_step_93 : decode cX9_step 93 = .ok (.ifCond .eq 41, 3) := by decide +kernel
theorem dX9_step_96 : decode cX9_step 96 = .ok (.aload_n 0, 1) := by decide +kernel
theorem dX9_step_97 : decode cX9_step 97 = .ok (.invokevirtual 53, 3) := by decide +kernel
theorem dX9_step_100 : decode cX9_step 100 = .ok (.aload_n 0, 1) := by decide +kernel
theorem dX9_step_101 : decode cX9_step 101 = .ok (.aload_n 0, 1) := by decide +kernel
theorem dX9_step_102 : decode cX9_step 102 = .ok (.getfield 22, 3) := by decide +kernel
theorem dX9_step_105 : decode cX9_step 105 = .ok (.aload_n 0, 1) := by decide +kernel
theorem dX9_step_106 : decode cX9_step 106 = .ok (.getfield 19, 3) := by decide +kernel
theorem dX9_step_109 : decode cX9_step 109 = .ok (.isub, 1) := by decide +kernel
theorem dX9_step_110 : decode cX9_step 110 = .ok (.bipush 8, 2) := by decide +kernel
theorem dX9_step_112 : decode cX9_step 112 = .ok (.if_icmp .le 9, 3) := by decide +kernel
theorem dX9_step_115 : decode cX9_step 115 = .ok (.getstatic 56, 3) := by decide +kernel
theorem dX9_step_118 : decode cX9_step 118 = .ok (.goto 10, 3) := by decide +kernel
theorem dX9_step_121 : decode cX9_step 121 = .ok (.aload_n 0, 1) := by decide +kernel
theorem dX9_step_122 : decode cX9_step 122 = .ok (.getstatic 59, 3) := by decide +kernel
theorem dX9_step_125 : decode cX9_step 125 = .ok (.invokevirtual 62, 3) := by decide +kernel
theorem dX9_step_128 : decode cX9_step 128 = .ok (.putfield 31, 3) := by decide +kernel
theorem dX9_step_131 : decode cX9_step 131 = .ok (.goto 72, 3) := by decide +kernel
theorem dX9_step_134 : decode cX9_step 134 = .ok (.aload_n 0, 1) := by decide +kernel
theorem dX9_step_135 : decode cX9_step 135 = .ok (.getfield 9, 3) := by decide +kernel
theorem dX9_step_138 : decode cX9_step 138 = .ok (.aload_n 0, 1) := by decide +kernel
theorem dX9_step_139 : decode cX9_step 139 = .ok (.getfield 22, 3) := by decide +kernel
theorem dX9_step_142 : decode cX9_step 142 = .ok (.caload, 1) := by decide +kernel
theorem dX9_step_143 : decode cX9_step 143 = .ok (.invokestatic 66, 3) := by decide +kernel
theorem dX9_step_146 : decode cX9_step 146 = .ok (.ifCond .eq 36, 3) := by decide +kernel
theorem dX9_step_149 : decode cX9_step 149 = .ok (.aload_n 0, 1) := by decide +kernel
theorem dX9_step_150 : decode cX9_step 150 = .ok (.invokevirtual 69, 3) := by decide +kernel
theorem dX9_step_153 : decode cX9_step 153 = .ok (.aload_n 0, 1) := by decide +kernel
theorem dX9_step_154 : decode cX9_step 154 = .ok (.aload_n 0, 1) := by decide +kernel
theorem dX9_step_155 : decode cX9_step 155 = .ok (.getfield 22, 3) := by decide +kernel
theorem dX9_step_158 : decode cX9_step 158 = .ok (.aload_n 0, 1) := by decide +kernel
theorem dX9_step_159 : decode cX9_step 159 = .ok (.getfield 19, 3) := by decide +kernel
theorem dX9_step_162 : decode cX9_step 162 = .ok (.isub, 1) := by decide +kernel
theorem dX9_step_163 : decode cX9_step 163 = .ok (.iconst 4, 1) := by decide +kernel
theorem dX9_step_164 : decode cX9_step 164 = .ok (.if_icmp .le 9, 3) := by decide +kernel
theorem dX9_step_167 : decode cX9_step 167 = .ok (.getstatic 56, 3) := by decide +kernel
theorem dX9_step_170 : decode cX9_step 170 = .ok (.goto 6, 3) := by decide +kernel
theorem dX9_step_173 : decode cX9_step 173 = .ok (.getstatic 72, 3) := by decide +kernel
theorem dX9_step_176 : decode cX9_step 176 = .ok (.putfield 31, 3) := by decide +kernel
theorem dX9_step_179 : decode cX9_step 179 = .ok (.goto 24, 3) := by decide +kernel
theorem dX9_step_182 : decode cX9_step 182 = .ok (.aload_n 0, 1) := by decide +kernel
theorem dX9_step_183 : decode cX9_step 183 = .ok (.dup, 1) := by decide +kernel
theorem dX9_step_184 : decode cX9_step 184 = .ok (.getfield 22, 3) := by decide +kernel
theorem dX9_step_187 : decode cX9_step 187 = .ok (.iconst 1, 1) := by decide +kernel
theorem dX9_step_188 : decode cX9_step 188 = .ok (.iadd, 1) := by decide +kernel
theorem dX9_step_189 : decode cX9_step 189 = .ok (.putfield 22, 3) := by decide +kernel
theorem dX9_step_192 : decode cX9_step 192 = .ok (.aload_n 0, 1) := by decide +kernel
theorem dX9_step_193 : decode cX9_step 193 = .ok (.aload_n 0, 1) := by decide +kernel
theorem dX9_step_194 : decode cX9_step 194 = .ok (.getstatic 56, 3) := by decide +kernel
theorem dX9_step_197 : decode cX9_step 197 = .ok (.invokevirtual 62, 3) := by decide +kernel
theorem dX9_step_200 : decode cX9_step 200 = .ok (.putfield 31, 3) := by decide +kernel
theorem dX9_step_203 : decode cX9_step 203 = .ok (.return_, 1) := by decide +kernel
theorem dX9_stepOverWord_0 : decode cX9_stepOverWord 0 = .ok (.aload_n 0, 1) := by decide +kernel
theorem dX9_stepOverWord_1 : decode cX9_stepOverWord 1 = .ok (.lconst 0, 1) := by decide +kernel
theorem dX9_stepOverWord_2 : decode cX9_stepOverWord 2 = .ok (.putfield 37, 3) := by decide +kernel
theorem dX9_stepOverWord_5 : decode cX9_stepOverWord 5 = .ok (.aload_n 0, 1) := by decide +kernel
theorem dX9_stepOverWord_6 : decode cX9_stepOverWord 6 = .ok (.getfield 22, 3) := by decide +kernel
theorem dX9_stepOverWord_9 : decode cX9_stepOverWord 9 = .ok (.aload_n 0, 1) := by decide +kernel
theorem dX9_stepOverWord_10 : decode cX9_stepOverWord 10 = .ok (.getfield 15, 3) := by decide +kernel
theorem dX9_stepOverWord_13 : decode cX9_stepOverWord 13 = .ok (.if_icmp .ge 57, 3) := by decide +kernel
theorem dX9_stepOverWord_16 : decode cX9_stepOverWord 16 = .ok (.aload_n 0, 1) := by decide +kernel
theorem dX9_stepOverWord_17 : decode cX9_stepOverWord 17 = .ok (.getfield 9, 3) := by decide +kernel
theorem dX9_stepOverWord_20 : decode cX9_stepOverWord 20 = .ok (.aload_n 0, 1) := by decide +kernel
theorem dX9_stepOverWord_21 : decode cX9_stepOverWord 21 = .ok (.getfield 22, 3) := by decide +kernel
theorem dX9_stepOverWord_24 : decode cX9_stepOverWord 24 = .ok (.caload, 1) := by decide +kernel
theorem dX9_stepOverWord_25 : decode cX9_stepOverWord 25 = .ok (.invokestatic 49, 3) := by decide +kernel
theorem dX9_stepOverWord_28 : decode cX9_stepOverWord 28 = .ok (.ifCond .eq 42, 3) := by decide +kernel
theorem dX9_stepOverWord_31 : decode cX9_stepOverWord 31 = .ok (.aload_n 0, 1) := by decide +kernel
theorem dX9_stepOverWord_32 : decode cX9_stepOverWord 32 = .ok (.aload_n 0, 1) := by decide +kernel
theorem dX9_stepOverWord_33 : decode cX9_stepOverWord 33 = .ok (.getfield 37, 3) := by decide +kernel
theorem dX9_stepOverWord_36 : decode cX9_stepOverWord 36 = .ok (.iconst 5, 1) := by decide +kernel
theorem dX9_stepOverWord_37 : decode cX9_stepOverWord 37 = .ok (.lshl, 1) := by decide +kernel
theorem dX9_stepOverWord_38 : decode cX9_stepOverWord 38 = .ok (.aload_n 0, 1) := by decide +kernel
theorem dX9_stepOverWord_39 : decode cX9_stepOverWord 39 = .ok (.getfield 9, 3) := by decide +kernel
theorem dX9_stepOverWord_42 : decode cX9_stepOverWord 42 = .ok (.aload_n 0, 1) := by decide +kernel
theorem dX9_stepOverWord_43 : decode cX9_stepOverWord 43 = .ok (.getfield 22, 3) := by decide +kernel
theorem dX9_stepOverWord_46 : decode cX9_stepOverWord 46 = .ok (.caload, 1) := by decide +kernel
theorem dX9_stepOverWord_47 : decode cX9_stepOverWord 47 = .ok (.bipush 97, 2) := by decide +kernel
theorem dX9_stepOverWord_49 : decode cX9_stepOverWord 49 = .ok (.isub, 1) := by decide +kernel
theorem dX9_stepOverWord_50 : decode cX9_stepOverWord 50 = .ok (.iconst 1, 1) := by decide +kernel
theorem dX9_stepOverWord_51 : decode cX9_stepOverWord 51 = .ok (.iadd, 1) := by decide +kernel
theorem dX9_stepOverWord_52 : decode cX9_stepOverWord 52 = .ok (.i2l, 1) := by decide +kernel
theorem dX9_stepOverWord_53 : decode cX9_stepOverWord 53 = .ok (.lor, 1) := by decide +kernel
theorem dX9_stepOverWord_54 : decode cX9_stepOverWord 54 = .ok (.putfield 37, 3) := by decide +kernel
theorem dX9_stepOverWord_57 : decode cX9_stepOverWord 57 = .ok (.aload_n 0, 1) := by decide +kernel
theorem dX9_stepOverWord_58 : decode cX9_stepOverWord 58 = .ok (.dup, 1) := by decide +kernel
theorem dX9_stepOverWord_59 : decode cX9_stepOverWord 59 = .ok (.getfield 22, 3) := by decide +kernel
theorem dX9_stepOverWord_62 : decode cX9_stepOverWord 62 = .ok (.iconst 1, 1) := by decide +kernel
theorem dX9_stepOverWord_63 : decode cX9_stepOverWord 63 = .ok (.iadd, 1) := by decide +kernel
theorem dX9_stepOverWord_64 : decode cX9_stepOverWord 64 = .ok (.putfield 22, 3) := by decide +kernel
theorem dX9_stepOverWord_67 : decode cX9_stepOverWord 67 = .ok (.goto (-62), 3) := by decide +kernel
theorem dX9_stepOverWord_70 : decode cX9_stepOverWord 70 = .ok (.return_, 1) := by decide +kernel
theorem dX9_stepOverNumber_0 : decode cX9_stepOverNumber 0 = .ok (.aload_n 0, 1) := by decide +kernel
theorem dX9_stepOverNumber_1 : decode cX9_stepOverNumber 1 = .ok (.iconst 0, 1) := by decide +kernel
theorem dX9_stepOverNumber_2 : decode cX9_stepOverNumber 2 = .ok (.putfield 34, 3) := by decide +kernel
theorem dX9_stepOverNumber_5 : decode cX9_stepOverNumber 5 = .ok (.aload_n 0, 1) := by decide +kernel
theorem dX9_stepOverNumber_6 : decode cX9_stepOverNumber 6 = .ok (.getfield 22, 3) := by decide +kernel
theorem dX9_stepOverNumber_9 : decode cX9_stepOverNumber 9 = .ok (.aload_n 0, 1) := by decide +kernel
theorem dX9_stepOverNumber_10 : decode cX9_stepOverNumber 10 = .ok (.getfield 15, 3) := by decide +kernel
theorem dX9_stepOverNumber_13 : decode cX9_stepOverNumber 13 = .ok (.if_icmp .ge 55, 3) := by decide +kernel
theorem dX9_stepOverNumber_16 : decode cX9_stepOverNumber 16 = .ok (.aload_n 0, 1) := by decide +kernel
theorem dX9_stepOverNumber_17 : decode cX9_stepOverNumber 17 = .ok (.getfield 9, 3) := by decide +kernel
theorem dX9_stepOverNumber_20 : decode cX9_stepOverNumber 20 = .ok (.aload_n 0, 1) := by decide +kernel
theorem dX9_stepOverNumber_21 : decode cX9_stepOverNumber 21 = .ok (.getfield 22, 3) := by decide +kernel
theorem dX9_stepOverNumber_24 : decode cX9_stepOverNumber 24 = .ok (.caload, 1) := by decide +kernel
theorem dX9_stepOverNumber_25 : decode cX9_stepOverNumber 25 = .ok (.invokestatic 66, 3) := by decide +kernel
theorem dX9_stepOverNumber_28 : decode cX9_stepOverNumber 28 = .ok (.ifCond .eq 40, 3) := by decide +kernel
theorem dX9_stepOverNumber_31 : decode cX9_stepOverNumber 31 = .ok (.aload_n 0, 1) := by decide +kernel
theorem dX9_stepOverNumber_32 : decode cX9_stepOverNumber 32 = .ok (.aload_n 0, 1) := by decide +kernel
theorem dX9_stepOverNumber_33 : decode cX9_stepOverNumber 33 = .ok (.getfield 34, 3) := by decide +kernel
theorem dX9_stepOverNumber_36 : decode cX9_stepOverNumber 36 = .ok (.bipush 10, 2) := by decide +kernel
theorem dX9_stepOverNumber_38 : decode cX9_stepOverNumber 38 = .ok (.imul, 1) := by decide +kernel
theorem dX9_stepOverNumber_39 : decode cX9_stepOverNumber 39 = .ok (.aload_n 0, 1) := by decide +kernel
theorem dX9_stepOverNumber_40 : decode cX9_stepOverNumber 40 = .ok (.getfield 9, 3) := by decide +kernel
theorem dX9_stepOverNumber_43 : decode cX9_stepOverNumber 43 = .ok (.aload_n 0, 1) := by decide +kernel
theorem dX9_stepOverNumber_44 : decode cX9_stepOverNumber 44 = .ok (.getfield 22, 3) := by decide +kernel
theorem dX9_stepOverNumber_47 : decode cX9_stepOverNumber 47 = .ok (.caload, 1) := by decide +kernel
theorem dX9_stepOverNumber_48 : decode cX9_stepOverNumber 48 = .ok (.bipush 48, 2) := by decide +kernel
theorem dX9_stepOverNumber_50 : decode cX9_stepOverNumber 50 = .ok (.isub, 1) := by decide +kernel
theorem dX9_stepOverNumber_51 : decode cX9_stepOverNumber 51 = .ok (.iadd, 1) := by decide +kernel
theorem dX9_stepOverNumber_52 : decode cX9_stepOverNumber 52 = .ok (.putfield 34, 3) := by decide +kernel
theorem dX9_stepOverNumber_55 : decode cX9_stepOverNumber 55 = .ok (.aload_n 0, 1) := by decide +kernel
theorem dX9_stepOverNumber_56 : decode cX9_stepOverNumber 56 = .ok (.dup, 1) := by decide +kernel
theorem dX9_stepOverNumber_57 : decode cX9_stepOverNumber 57 = .ok (.getfield 22, 3) := by decide +kernel
theorem dX9_stepOverNumber_60 : decode cX9_stepOverNumber 60 = .ok (.iconst 1, 1) := by decide +kernel
theorem dX9_stepOverNumber_61 : decode cX9_stepOverNumber 61 = .ok (.iadd, 1) := by decide +kernel
theorem dX9_stepOverNumber_62 : decode cX9_stepOverNumber 62 = .ok (.putfield 22, 3) := by decide +kernel
theorem dX9_stepOverNumber_65 : decode cX9_stepOverNumber 65 = .ok (.goto (-60), 3) := by decide +kernel
theorem dX9_stepOverNumber_68 : decode cX9_stepOverNumber 68 = .ok (.return_, 1) := by decide +kernel
theorem dX9_sortAs_0 : decode cX9_sortAs 0 = .ok (.iconst 0, 1) := by decide +kernel
theorem dX9_sortAs_1 : decode cX9_sortAs 1 = .ok (.istore_n 2, 1) := by decide +kernel
theorem dX9_sortAs_2 : decode cX9_sortAs 2 = .ok (.iload_n 2, 1) := by decide +kernel
theorem dX9_sortAs_3 : decode cX9_sortAs 3 = .ok (.getstatic 75, 3) := by decide +kernel
theorem dX9_sortAs_6 : decode cX9_sortAs 6 = .ok (.arraylength, 1) := by decide +kernel
theorem dX9_sortAs_7 : decode cX9_sortAs 7 = .ok (.if_icmp .ge 30, 3) := by decide +kernel
theorem dX9_sortAs_10 : decode cX9_sortAs 10 = .ok (.aload_n 0, 1) := by decide +kernel
theorem dX9_sortAs_11 : decode cX9_sortAs 11 = .ok (.getstatic 75, 3) := by decide +kernel
theorem dX9_sortAs_14 : decode cX9_sortAs 14 = .ok (.iload_n 2, 1) := by decide +kernel
theorem dX9_sortAs_15 : decode cX9_sortAs 15 = .ok (.aaload, 1) := by decide +kernel
theorem dX9_sortAs_16 : decode cX9_sortAs 16 = .ok (.getfield 79, 3) := by decide +kernel
theorem dX9_sortAs_19 : decode cX9_sortAs 19 = .ok (.invokevirtual 83, 3) := by decide +kernel
theorem dX9_sortAs_22 : decode cX9_sortAs 22 = .ok (.ifCond .eq 9, 3) := by decide +kernel
theorem dX9_sortAs_25 : decode cX9_sortAs 25 = .ok (.getstatic 75, 3) := by decide +kernel
theorem dX9_sortAs_28 : decode cX9_sortAs 28 = .ok (.iload_n 2, 1) := by decide +kernel
theorem dX9_sortAs_29 : decode cX9_sortAs 29 = .ok (.aaload, 1) := by decide +kernel
theorem dX9_sortAs_30 : decode cX9_sortAs 30 = .ok (.areturn, 1) := by decide +kernel
theorem dX9_sortAs_31 : decode cX9_sortAs 31 = .ok (.iinc 2 1, 3) := by decide +kernel
theorem dX9_sortAs_34 : decode cX9_sortAs 34 = .ok (.goto (-32), 3) := by decide +kernel
theorem dX9_sortAs_37 : decode cX9_sortAs 37 = .ok (.aload_n 1, 1) := by decide +kernel
theorem dX9_sortAs_38 : decode cX9_sortAs 38 = .ok (.areturn, 1) := by decide +kernel
theorem dX9_spells_0 : decode cX9_spells 0 = .ok (.aload_n 0, 1) := by decide +kernel
theorem dX9_spells_1 : decode cX9_spells 1 = .ok (.getfield 22, 3) := by decide +kernel
theorem dX9_spells_4 : decode cX9_spells 4 = .ok (.aload_n 0, 1) := by decide +kernel
theorem dX9_spells_5 : decode cX9_spells 5 = .ok (.getfield 19, 3) := by decide +kernel
theorem dX9_spells_8 : decode cX9_spells 8 = .ok (.isub, 1) := by decide +kernel
theorem dX9_spells_9 : decode cX9_spells 9 = .ok (.aload_n 1, 1) := by decide +kernel
theorem dX9_spells_10 : decode cX9_spells 10 = .ok (.invokevirtual 87, 3) := by decide +kernel
theorem dX9_spells_13 : decode cX9_spells 13 = .ok (.if_icmp .eq 5, 3) := by decide +kernel
theorem dX9_spells_16 : decode cX9_spells 16 = .ok (.iconst 0, 1) := by decide +kernel
theorem dX9_spells_17 : decode cX9_spells 17 = .ok (.ireturn, 1) := by decide +kernel
theorem dX9_spells_18 : decode cX9_spells 18 = .ok (.iconst 0, 1) := by decide +kernel
theorem dX9_spells_19 : decode cX9_spells 19 = .ok (.istore_n 2, 1) := by decide +kernel
theorem dX9_spells_20 : decode cX9_spells 20 = .ok (.iload_n 2, 1) := by decide +kernel
theorem dX9_spells_21 : decode cX9_spells 21 = .ok (.aload_n 1, 1) := by decide +kernel
theorem dX9_spells_22 : decode cX9_spells 22 = .ok (.invokevirtual 87, 3) := by decide +kernel
theorem dX9_spells_25 : decode cX9_spells 25 = .ok (.if_icmp .ge 43, 3) := by decide +kernel
theorem dX9_spells_28 : decode cX9_spells 28 = .ok (.aload_n 0, 1) := by decide +kernel
theorem dX9_spells_29 : decode cX9_spells 29 = .ok (.getfield 19, 3) := by decide +kernel
theorem dX9_spells_32 : decode cX9_spells 32 = .ok (.iload_n 2, 1) := by decide +kernel
theorem dX9_spells_33 : decode cX9_spells 33 = .ok (.iadd, 1) := by decide +kernel
theorem dX9_spells_34 : decode cX9_spells 34 = .ok (.aload_n 0, 1) := by decide +kernel
theorem dX9_spells_35 : decode cX9_spells 35 = .ok (.getfield 15, 3) := by decide +kernel
theorem dX9_spells_38 : decode cX9_spells 38 = .ok (.if_icmp .ge 30, 3) := by decide +kernel
theorem dX9_spells_41 : decode cX9_spells 41 = .ok (.aload_n 0, 1) := by decide +kernel
theorem dX9_spells_42 : decode cX9_spells 42 = .ok (.getfield 9, 3) := by decide +kernel
theorem dX9_spells_45 : decode cX9_spells 45 = .ok (.aload_n 0, 1) := by decide +kernel
theorem dX9_spells_46 : decode cX9_spells 46 = .ok (.getfield 19, 3) := by decide +kernel
theorem dX9_spells_49 : decode cX9_spells 49 = .ok (.iload_n 2, 1) := by decide +kernel
theorem dX9_spells_50 : decode cX9_spells 50 = .ok (.iadd, 1) := by decide +kernel
theorem dX9_spells_51 : decode cX9_spells 51 = .ok (.caload, 1) := by decide +kernel
theorem dX9_spells_52 : decode cX9_spells 52 = .ok (.aload_n 1, 1) := by decide +kernel
theorem dX9_spells_53 : decode cX9_spells 53 = .ok (.iload_n 2, 1) := by decide +kernel
theorem dX9_spells_54 : decode cX9_spells 54 = .ok (.invokevirtual 92, 3) := by decide +kernel
theorem dX9_spells_57 : decode cX9_spells 57 = .ok (.if_icmp .eq 5, 3) := by decide +kernel
theorem dX9_spells_60 : decode cX9_spells 60 = .ok (.iconst 0, 1) := by decide +kernel
theorem dX9_spells_61 : decode cX9_spells 61 = .ok (.ireturn, 1) := by decide +kernel
theorem dX9_spells_62 : decode cX9_spells 62 = .ok (.iinc 2 1, 3) := by decide +kernel
theorem dX9_spells_65 : decode cX9_spells 65 = .ok (.goto (-45), 3) := by decide +kernel
theorem dX9_spells_68 : decode cX9_spells 68 = .ok (.iconst 1, 1) := by decide +kernel
theorem dX9_spells_69 : decode cX9_spells 69 = .ok (.ireturn, 1) := by decide +kernel
theorem dX9_isLetter_0 : decode cX9_isLetter 0 = .ok (.iload_n 0, 1) := by decide +kernel
theorem dX9_isLetter_1 : decode cX9_isLetter 1 = .ok (.bipush 97, 2) := by decide +kernel
theorem dX9_isLetter_3 : decode cX9_isLetter 3 = .ok (.if_icmp .lt 13, 3) := by decide +kernel
theorem dX9_isLetter_6 : decode cX9_isLetter 6 = .ok (.iload_n 0, 1) := by decide +kernel
theorem dX9_isLetter_7 : decode cX9_isLetter 7 = .ok (.bipush 122, 2) := by decide +kernel
theorem dX9_isLetter_9 : decode cX9_isLetter 9 = .ok (.if_icmp .gt 7, 3) := by decide +kernel
theorem dX9_isLetter_12 : decode cX9_isLetter 12 = .ok (.iconst 1, 1) := by decide +kernel
theorem dX9_isLetter_13 : decode cX9_isLetter 13 = .ok (.goto 4, 3) := by decide +kernel
theorem dX9_isLetter_16 : decode cX9_isLetter 16 = .ok (.iconst 0, 1) := by decide +kernel
theorem dX9_isLetter_17 : decode cX9_isLetter 17 = .ok (.ireturn, 1) := by decide +kernel
theorem dX9_isDigit_0 : decode cX9_isDigit 0 = .ok (.iload_n 0, 1) := by decide +kernel
theorem dX9_isDigit_1 : decode cX9_isDigit 1 = .ok (.bipush 48, 2) := by decide +kernel
theorem dX9_isDigit_3 : decode cX9_isDigit 3 = .ok (.if_icmp .lt 13, 3) := by decide +kernel
theorem dX9_isDigit_6 : decode cX9_isDigit 6 = .ok (.iload_n 0, 1) := by decide +kernel
theorem dX9_isDigit_7 : decode cX9_isDigit 7 = .ok (.bipush 57, 2) := by decide +kernel
theorem dX9_isDigit_9 : decode cX9_isDigit 9 = .ok (.if_icmp .gt 7, 3) := by decide +kernel
theorem dX9_isDigit_12 : decode cX9_isDigit 12 = .ok (.iconst 1, 1) := by decide +kernel
theorem dX9_isDigit_13 : decode cX9_isDigit 13 = .ok (.goto 4, 3) := by decide +kernel
theorem dX9_isDigit_16 : decode cX9_isDigit 16 = .ok (.iconst 0, 1) := by decide +kernel
theorem dX9_isDigit_17 : decode cX9_isDigit 17 = .ok (.ireturn, 1) := by decide +kernel
theorem dX9_wrong_0 : decode cX9_wrong 0 = .ok (.aload_n 0, 1) := by decide +kernel
theorem dX9_wrong_1 : decode cX9_wrong 1 = .ok (.iload_n 1, 1) := by decide +kernel
theorem dX9_wrong_2 : decode cX9_wrong 2 = .ok (.bipush 16, 2) := by decide +kernel
theorem dX9_wrong_4 : decode cX9_wrong 4 = .ok (.aload_n 0, 1) := by decide +kernel
theorem dX9_wrong_5 : decode cX9_wrong 5 = .ok (.getfield 19, 3) := by decide +kernel
theorem dX9_wrong_8 : decode cX9_wrong 8 = .ok (.imul, 1) := by decide +kernel
theorem dX9_wrong_9 : decode cX9_wrong 9 = .ok (.iadd, 1) := by decide +kernel
theorem dX9_wrong_10 : decode cX9_wrong 10 = .ok (.putfield 41, 3) := by decide +kernel
theorem dX9_wrong_13 : decode cX9_wrong 13 = .ok (.iconst 0, 1) := by decide +kernel
theorem dX9_wrong_14 : decode cX9_wrong 14 = .ok (.ireturn, 1) := by decide +kernel
theorem dX9_take_0 : decode cX9_take 0 = .ok (.aload_n 0, 1) := by decide +kernel
theorem dX9_take_1 : decode cX9_take 1 = .ok (.getfield 31, 3) := by decide +kernel
theorem dX9_take_4 : decode cX9_take 4 = .ok (.aload_n 1, 1) := by decide +kernel
theorem dX9_take_5 : decode cX9_take 5 = .ok (.if_acmp .eq 9, 3) := by decide +kernel
theorem dX9_take_8 : decode cX9_take 8 = .ok (.aload_n 0, 1) := by decide +kernel
theorem dX9_take_9 : decode cX9_take 9 = .ok (.iconst 1, 1) := by decide +kernel
theorem dX9_take_10 : decode cX9_take 10 = .ok (.invokevirtual 96, 3) := by decide +kernel
theorem dX9_take_13 : decode cX9_take 13 = .ok (.ireturn, 1) := by decide +kernel
theorem dX9_take_14 : decode cX9_take 14 = .ok (.aload_n 0, 1) := by decide +kernel
theorem dX9_take_15 : decode cX9_take 15 = .ok (.invokevirtual 46, 3) := by decide +kernel
theorem dX9_take_18 : decode cX9_take 18 = .ok (.iconst 1, 1) := by decide +kernel
theorem dX9_take_19 : decode cX9_take 19 = .ok (.ireturn, 1) := by decide +kernel
theorem dX9_takeNumber_0 : decode cX9_takeNumber 0 = .ok (.aload_n 0, 1) := by decide +kernel
theorem dX9_takeNumber_1 : decode cX9_takeNumber 1 = .ok (.getfield 31, 3) := by decide +kernel
theorem dX9_takeNumber_4 : decode cX9_takeNumber 4 = .ok (.getstatic 72, 3) := by decide +kernel
theorem dX9_takeNumber_7 : decode cX9_takeNumber 7 = .ok (.if_acmp .ne 19, 3) := by decide +kernel
theorem dX9_takeNumber_10 : decode cX9_takeNumber 10 = .ok (.aload_n 0, 1) := by decide +kernel
theorem dX9_takeNumber_11 : decode cX9_takeNumber 11 = .ok (.getfield 34, 3) := by decide +kernel
theorem dX9_takeNumber_14 : decode cX9_takeNumber 14 = .ok (.iload_n 1, 1) := by decide +kernel
theorem dX9_takeNumber_15 : decode cX9_takeNumber 15 = .ok (.if_icmp .lt 11, 3) := by decide +kernel
theorem dX9_takeNumber_18 : decode cX9_takeNumber 18 = .ok (.aload_n 0, 1) := by decide +kernel
theorem dX9_takeNumber_19 : decode cX9_takeNumber 19 = .ok (.getfield 34, 3) := by decide +kernel
theorem dX9_takeNumber_22 : decode cX9_takeNumber 22 = .ok (.iload_n 2, 1) := by decide +kernel
theorem dX9_takeNumber_23 : decode cX9_takeNumber 23 = .ok (.if_icmp .le 25, 3) := by decide +kernel
theorem dX9_takeNumber_26 : decode cX9_takeNumber 26 = .ok (.aload_n 0, 1) := by decide +kernel
theorem dX9_takeNumber_27 : decode cX9_takeNumber 27 = .ok (.aload_n 0, 1) := by decide +kernel
theorem dX9_takeNumber_28 : decode cX9_takeNumber 28 = .ok (.getfield 31, 3) := by decide +kernel
theorem dX9_takeNumber_31 : decode cX9_takeNumber 31 = .ok (.getstatic 72, 3) := by decide +kernel
theorem dX9_takeNumber_34 : decode cX9_takeNumber 34 = .ok (.if_acmp .eq 7, 3) := by decide +kernel
theorem dX9_takeNumber_37 : decode cX9_takeNumber 37 = .ok (.iconst 1, 1) := by decide +kernel
theorem dX9_takeNumber_38 : decode cX9_takeNumber 38 = .ok (.goto 4, 3) := by decide +kernel
theorem dX9_takeNumber_41 : decode cX9_takeNumber 41 = .ok (.iconst 4, 1) := by decide +kernel
theorem dX9_takeNumber_42 : decode cX9_takeNumber 42 = .ok (.invokevirtual 96, 3) := by decide +kernel
theorem dX9_takeNumber_45 : decode cX9_takeNumber 45 = .ok (.pop, 1) := by decide +kernel
theorem dX9_takeNumber_46 : decode cX9_takeNumber 46 = .ok (.iconst (-1), 1) := by decide +kernel
theorem dX9_takeNumber_47 : decode cX9_takeNumber 47 = .ok (.ireturn, 1) := by decide +kernel
theorem dX9_takeNumber_48 : decode cX9_takeNumber 48 = .ok (.aload_n 0, 1) := by decide +kernel
theorem dX9_takeNumber_49 : decode cX9_takeNumber 49 = .ok (.getfield 34, 3) := by decide +kernel
theorem dX9_takeNumber_52 : decode cX9_takeNumber 52 = .ok (.istore_n 3, 1) := by decide +kernel
theorem dX9_takeNumber_53 : decode cX9_takeNumber 53 = .ok (.aload_n 0, 1) := by decide +kernel
theorem dX9_takeNumber_54 : decode cX9_takeNumber 54 = .ok (.invokevirtual 46, 3) := by decide +kernel
theorem dX9_takeNumber_57 : decode cX9_takeNumber 57 = .ok (.iload_n 3, 1) := by decide +kernel
theorem dX9_takeNumber_58 : decode cX9_takeNumber 58 = .ok (.ireturn, 1) := by decide +kernel
theorem dX9_townHere_0 : decode cX9_townHere 0 = .ok (.aload_n 0, 1) := by decide +kernel
theorem dX9_townHere_1 : decode cX9_townHere 1 = .ok (.getfield 31, 3) := by decide +kernel
theorem dX9_townHere_4 : decode cX9_townHere 4 = .ok (.getstatic 59, 3) := by decide +kernel
theorem dX9_townHere_7 : decode cX9_townHere 7 = .ok (.if_acmp .ne 14, 3) := by decide +kernel
theorem dX9_townHere_10 : decode cX9_townHere 10 = .ok (.aload_n 1, 1) := by decide +kernel
theorem dX9_townHere_11 : decode cX9_townHere 11 = .ok (.aload_n 0, 1) := by decide +kernel
theorem dX9_townHere_12 : decode cX9_townHere 12 = .ok (.getfield 37, 3) := by decide +kernel
theorem dX9_townHere_15 : decode cX9_townHere 15 = .ok (.invokevirtual 100, 3) := by decide +kernel
theorem dX9_townHere_18 : decode cX9_townHere 18 = .ok (.goto 4, 3) := by decide +kernel
theorem dX9_townHere_21 : decode cX9_townHere 21 = .ok (.iconst (-1), 1) := by decide +kernel
theorem dX9_townHere_22 : decode cX9_townHere 22 = .ok (.istore_n 2, 1) := by decide +kernel
theorem dX9_townHere_23 : decode cX9_townHere 23 = .ok (.iload_n 2, 1) := by decide +kernel
theorem dX9_townHere_24 : decode cX9_townHere 24 = .ok (.iconst (-1), 1) := by decide +kernel
theorem dX9_townHere_25 : decode cX9_townHere 25 = .ok (.if_icmp .ne 23, 3) := by decide +kernel
theorem dX9_townHere_28 : decode cX9_townHere 28 = .ok (.aload_n 0, 1) := by decide +kernel
theorem dX9_townHere_29 : decode cX9_townHere 29 = .ok (.aload_n 0, 1) := by decide +kernel
theorem dX9_townHere_30 : decode cX9_townHere 30 = .ok (.getfield 31, 3) := by decide +kernel
theorem dX9_townHere_33 : decode cX9_townHere 33 = .ok (.getstatic 59, 3) := by decide +kernel
theorem dX9_townHere_36 : decode cX9_townHere 36 = .ok (.if_acmp .ne 7, 3) := by decide +kernel
theorem dX9_townHere_39 : decode cX9_townHere 39 = .ok (.iconst 2, 1) := by decide +kernel
theorem dX9_townHere_40 : decode cX9_townHere 40 = .ok (.goto 4, 3) := by decide +kernel
theorem dX9_townHere_43 : decode cX9_townHere 43 = .ok (.iconst 1, 1) := by decide +kernel
theorem dX9_townHere_44 : decode cX9_townHere 44 = .ok (.invokevirtual 96, 3) := by decide +kernel
theorem dX9_townHere_47 : decode cX9_townHere 47 = .ok (.pop, 1) := by decide +kernel
theorem dX9_townHere_48 : decode cX9_townHere 48 = .ok (.iload_n 2, 1) := by decide +kernel
theorem dX9_townHere_49 : decode cX9_townHere 49 = .ok (.ireturn, 1) := by decide +kernel
theorem dX9_personHere_0 : decode cX9_personHere 0 = .ok (.aload_n 0, 1) := by decide +kernel
theorem dX9_personHere_1 : decode cX9_personHere 1 = .ok (.getfield 31, 3) := by decide +kernel
theorem dX9_personHere_4 : decode cX9_personHere 4 = .ok (.getstatic 59, 3) := by decide +kernel
theorem dX9_personHere_7 : decode cX9_personHere 7 = .ok (.if_acmp .ne 14, 3) := by decide +kernel
theorem dX9_personHere_10 : decode cX9_personHere 10 = .ok (.aload_n 1, 1) := by decide +kernel
theorem dX9_personHere_11 : decode cX9_personHere 11 = .ok (.aload_n 0, 1) := by decide +kernel
