theorem dX4_readSum_47 : decode cX4_readSum 47 = .ok (.if_acmp .ne 8, 3) := by decide +kernel
theorem dX4_readSum_50 : decode cX4_readSum 50 = .ok (.bipush (-10), 2) := by decide +kernel
theorem dX4_readSum_52 : decode cX4_readSum 52 = .ok (.goto 5, 3) := by decide +kernel
theorem dX4_readSum_55 : decode cX4_readSum 55 = .ok (.bipush (-11), 2) := by decide +kernel
theorem dX4_readSum_57 : decode cX4_readSum 57 = .ok (.istore 4, 2) := by decide +kernel
theorem dX4_readSum_59 : decode cX4_readSum 59 = .ok (.aload_n 1, 1) := by decide +kernel
theorem dX4_readSum_60 : decode cX4_readSum 60 = .ok (.invokevirtual 50, 3) := by decide +kernel
theorem dX4_readSum_63 : decode cX4_readSum 63 = .ok (.aload_n 0, 1) := by decide +kernel
theorem dX4_readSum_64 : decode cX4_readSum 64 = .ok (.aload_n 1, 1) := by decide +kernel
theorem dX4_readSum_65 : decode cX4_readSum 65 = .ok (.iload_n 2, 1) := by decide +kernel
theorem dX4_readSum_66 : decode cX4_readSum 66 = .ok (.invokevirtual 62, 3) := by decide +kernel
theorem dX4_readSum_69 : decode cX4_readSum 69 = .ok (.ifCond .ne 5, 3) := by decide +kernel
theorem dX4_readSum_72 : decode cX4_readSum 72 = .ok (.iconst 0, 1) := by decide +kernel
theorem dX4_readSum_73 : decode cX4_readSum 73 = .ok (.ireturn, 1) := by decide +kernel
theorem dX4_readSum_74 : decode cX4_readSum 74 = .ok (.aload_n 0, 1) := by decide +kernel
theorem dX4_readSum_75 : decode cX4_readSum 75 = .ok (.iload 4, 2) := by decide +kernel
theorem dX4_readSum_77 : decode cX4_readSum 77 = .ok (.invokevirtual 22, 3) := by decide +kernel
theorem dX4_readSum_80 : decode cX4_readSum 80 = .ok (.iinc 3 1, 3) := by decide +kernel
theorem dX4_readSum_83 : decode cX4_readSum 83 = .ok (.goto (-70), 3) := by decide +kernel
theorem dX4_readSum_86 : decode cX4_readSum 86 = .ok (.iconst 1, 1) := by decide +kernel
theorem dX4_readSum_87 : decode cX4_readSum 87 = .ok (.ireturn, 1) := by decide +kernel
theorem dX4_readProduct_0 : decode cX4_readProduct 0 = .ok (.aload_n 0, 1) := by decide +kernel
theorem dX4_readProduct_1 : decode cX4_readProduct 1 = .ok (.aload_n 1, 1) := by decide +kernel
theorem dX4_readProduct_2 : decode cX4_readProduct 2 = .ok (.iload_n 2, 1) := by decide +kernel
theorem dX4_readProduct_3 : decode cX4_readProduct 3 = .ok (.invokevirtual 71, 3) := by decide +kernel
theorem dX4_readProduct_6 : decode cX4_readProduct 6 = .ok (.ifCond .ne 5, 3) := by decide +kernel
theorem dX4_readProduct_9 : decode cX4_readProduct 9 = .ok (.iconst 0, 1) := by decide +kernel
theorem dX4_readProduct_10 : decode cX4_readProduct 10 = .ok (.ireturn, 1) := by decide +kernel
theorem dX4_readProduct_11 : decode cX4_readProduct 11 = .ok (.iconst 0, 1) := by decide +kernel
theorem dX4_readProduct_12 : decode cX4_readProduct 12 = .ok (.istore_n 3, 1) := by decide +kernel
theorem dX4_readProduct_13 : decode cX4_readProduct 13 = .ok (.iload_n 3, 1) := by decide +kernel
theorem dX4_readProduct_14 : decode cX4_readProduct 14 = .ok (.sipush 1000, 3) := by decide +kernel
theorem dX4_readProduct_17 : decode cX4_readProduct 17 = .ok (.if_icmp .ge 40, 3) := by decide +kernel
theorem dX4_readProduct_20 : decode cX4_readProduct 20 = .ok (.aload_n 1, 1) := by decide +kernel
theorem dX4_readProduct_21 : decode cX4_readProduct 21 = .ok (.getfield 36, 3) := by decide +kernel
theorem dX4_readProduct_24 : decode cX4_readProduct 24 = .ok (.getstatic 74, 3) := by decide +kernel
theorem dX4_readProduct_27 : decode cX4_readProduct 27 = .ok (.if_acmp .ne 30, 3) := by decide +kernel
theorem dX4_readProduct_30 : decode cX4_readProduct 30 = .ok (.aload_n 1, 1) := by decide +kernel
theorem dX4_readProduct_31 : decode cX4_readProduct 31 = .ok (.invokevirtual 50, 3) := by decide +kernel
theorem dX4_readProduct_34 : decode cX4_readProduct 34 = .ok (.aload_n 0, 1) := by decide +kernel
theorem dX4_readProduct_35 : decode cX4_readProduct 35 = .ok (.aload_n 1, 1) := by decide +kernel
theorem dX4_readProduct_36 : decode cX4_readProduct 36 = .ok (.iload_n 2, 1) := by decide +kernel
theorem dX4_readProduct_37 : decode cX4_readProduct 37 = .ok (.invokevirtual 71, 3) := by decide +kernel
theorem dX4_readProduct_40 : decode cX4_readProduct 40 = .ok (.ifCond .ne 5, 3) := by decide +kernel
theorem dX4_readProduct_43 : decode cX4_readProduct 43 = .ok (.iconst 0, 1) := by decide +kernel
theorem dX4_readProduct_44 : decode cX4_readProduct 44 = .ok (.ireturn, 1) := by decide +kernel
theorem dX4_readProduct_45 : decode cX4_readProduct 45 = .ok (.aload_n 0, 1) := by decide +kernel
theorem dX4_readProduct_46 : decode cX4_readProduct 46 = .ok (.bipush (-12), 2) := by decide +kernel
theorem dX4_readProduct_48 : decode cX4_readProduct 48 = .ok (.invokevirtual 22, 3) := by decide +kernel
theorem dX4_readProduct_51 : decode cX4_readProduct 51 = .ok (.iinc 3 1, 3) := by decide +kernel
theorem dX4_readProduct_54 : decode cX4_readProduct 54 = .ok (.goto (-41), 3) := by decide +kernel
theorem dX4_readProduct_57 : decode cX4_readProduct 57 = .ok (.iconst 1, 1) := by decide +kernel
theorem dX4_readProduct_58 : decode cX4_readProduct 58 = .ok (.ireturn, 1) := by decide +kernel
theorem dX4_readPart_0 : decode cX4_readPart 0 = .ok (.aload_n 1, 1) := by decide +kernel
theorem dX4_readPart_1 : decode cX4_readPart 1 = .ok (.getfield 36, 3) := by decide +kernel
theorem dX4_readPart_4 : decode cX4_readPart 4 = .ok (.getstatic 77, 3) := by decide +kernel
theorem dX4_readPart_7 : decode cX4_readPart 7 = .ok (.if_acmp .ne 7, 3) := by decide +kernel
theorem dX4_readPart_10 : decode cX4_readPart 10 = .ok (.iconst 1, 1) := by decide +kernel
theorem dX4_readPart_11 : decode cX4_readPart 11 = .ok (.goto 4, 3) := by decide +kernel
theorem dX4_readPart_14 : decode cX4_readPart 14 = .ok (.iconst 0, 1) := by decide +kernel
theorem dX4_readPart_15 : decode cX4_readPart 15 = .ok (.istore_n 3, 1) := by decide +kernel
theorem dX4_readPart_16 : decode cX4_readPart 16 = .ok (.aload_n 1, 1) := by decide +kernel
theorem dX4_readPart_17 : decode cX4_readPart 17 = .ok (.getfield 36, 3) := by decide +kernel
theorem dX4_readPart_20 : decode cX4_readPart 20 = .ok (.getstatic 80, 3) := by decide +kernel
theorem dX4_readPart_23 : decode cX4_readPart 23 = .ok (.if_acmp .ne 7, 3) := by decide +kernel
theorem dX4_readPart_26 : decode cX4_readPart 26 = .ok (.iconst 1, 1) := by decide +kernel
theorem dX4_readPart_27 : decode cX4_readPart 27 = .ok (.goto 4, 3) := by decide +kernel
theorem dX4_readPart_30 : decode cX4_readPart 30 = .ok (.iconst 0, 1) := by decide +kernel
theorem dX4_readPart_31 : decode cX4_readPart 31 = .ok (.istore 4, 2) := by decide +kernel
theorem dX4_readPart_33 : decode cX4_readPart 33 = .ok (.iload 4, 2) := by decide +kernel
theorem dX4_readPart_35 : decode cX4_readPart 35 = .ok (.ifCond .eq 8, 3) := by decide +kernel
theorem dX4_readPart_38 : decode cX4_readPart 38 = .ok (.bipush (-5), 2) := by decide +kernel
theorem dX4_readPart_40 : decode cX4_readPart 40 = .ok (.goto 7, 3) := by decide +kernel
theorem dX4_readPart_43 : decode cX4_readPart 43 = .ok (.aload_n 1, 1) := by decide +kernel
theorem dX4_readPart_44 : decode cX4_readPart 44 = .ok (.invokestatic 83, 3) := by decide +kernel
theorem dX4_readPart_47 : decode cX4_readPart 47 = .ok (.istore 5, 2) := by decide +kernel
theorem dX4_readPart_49 : decode cX4_readPart 49 = .ok (.iload_n 3, 1) := by decide +kernel
theorem dX4_readPart_50 : decode cX4_readPart 50 = .ok (.ifCond .ne 16, 3) := by decide +kernel
theorem dX4_readPart_53 : decode cX4_readPart 53 = .ok (.iload 5, 2) := by decide +kernel
theorem dX4_readPart_55 : decode cX4_readPart 55 = .ok (.bipush (-13), 2) := by decide +kernel
theorem dX4_readPart_57 : decode cX4_readPart 57 = .ok (.if_icmp .ne 9, 3) := by decide +kernel
theorem dX4_readPart_60 : decode cX4_readPart 60 = .ok (.aload_n 1, 1) := by decide +kernel
theorem dX4_readPart_61 : decode cX4_readPart 61 = .ok (.iconst 1, 1) := by decide +kernel
theorem dX4_readPart_62 : decode cX4_readPart 62 = .ok (.invokevirtual 87, 3) := by decide +kernel
theorem dX4_readPart_65 : decode cX4_readPart 65 = .ok (.ireturn, 1) := by decide +kernel
theorem dX4_readPart_66 : decode cX4_readPart 66 = .ok (.iload_n 2, 1) := by decide +kernel
theorem dX4_readPart_67 : decode cX4_readPart 67 = .ok (.iconst 5, 1) := by decide +kernel
theorem dX4_readPart_68 : decode cX4_readPart 68 = .ok (.if_icmp .lt 9, 3) := by decide +kernel
theorem dX4_readPart_71 : decode cX4_readPart 71 = .ok (.aload_n 1, 1) := by decide +kernel
theorem dX4_readPart_72 : decode cX4_readPart 72 = .ok (.iconst 5, 1) := by decide +kernel
theorem dX4_readPart_73 : decode cX4_readPart 73 = .ok (.invokevirtual 87, 3) := by decide +kernel
theorem dX4_readPart_76 : decode cX4_readPart 76 = .ok (.ireturn, 1) := by decide +kernel
theorem dX4_readPart_77 : decode cX4_readPart 77 = .ok (.aload_n 1, 1) := by decide +kernel
theorem dX4_readPart_78 : decode cX4_readPart 78 = .ok (.invokevirtual 50, 3) := by decide +kernel
theorem dX4_readPart_81 : decode cX4_readPart 81 = .ok (.iload_n 3, 1) := by decide +kernel
theorem dX4_readPart_82 : decode cX4_readPart 82 = .ok (.ifCond .eq 30, 3) := by decide +kernel
theorem dX4_readPart_85 : decode cX4_readPart 85 = .ok (.aload_n 0, 1) := by decide +kernel
theorem dX4_readPart_86 : decode cX4_readPart 86 = .ok (.aload_n 1, 1) := by decide +kernel
theorem dX4_readPart_87 : decode cX4_readPart 87 = .ok (.iload_n 2, 1) := by decide +kernel
theorem dX4_readPart_88 : decode cX4_readPart 88 = .ok (.iconst 1, 1) := by decide +kernel
theorem dX4_readPart_89 : decode cX4_readPart 89 = .ok (.iadd, 1) := by decide +kernel
theorem dX4_readPart_90 : decode cX4_readPart 90 = .ok (.invokevirtual 91, 3) := by decide +kernel
theorem dX4_readPart_93 : decode cX4_readPart 93 = .ok (.ifCond .eq 17, 3) := by decide +kernel
theorem dX4_readPart_96 : decode cX4_readPart 96 = .ok (.aload_n 1, 1) := by decide +kernel
theorem dX4_readPart_97 : decode cX4_readPart 97 = .ok (.getstatic 94, 3) := by decide +kernel
theorem dX4_readPart_100 : decode cX4_readPart 100 = .ok (.invokevirtual 97, 3) := by decide +kernel
theorem dX4_readPart_103 : decode cX4_readPart 103 = .ok (.ifCond .eq 7, 3) := by decide +kernel
theorem dX4_readPart_106 : decode cX4_readPart 106 = .ok (.iconst 1, 1) := by decide +kernel
theorem dX4_readPart_107 : decode cX4_readPart 107 = .ok (.goto 4, 3) := by decide +kernel
theorem dX4_readPart_110 : decode cX4_readPart 110 = .ok (.iconst 0, 1) := by decide +kernel
theorem dX4_readPart_111 : decode cX4_readPart 111 = .ok (.ireturn, 1) := by decide +kernel
theorem dX4_readPart_112 : decode cX4_readPart 112 = .ok (.iload 4, 2) := by decide +kernel
theorem dX4_readPart_114 : decode cX4_readPart 114 = .ok (.ifCond .eq 16, 3) := by decide +kernel
theorem dX4_readPart_117 : decode cX4_readPart 117 = .ok (.aload_n 0, 1) := by decide +kernel
theorem dX4_readPart_118 : decode cX4_readPart 118 = .ok (.aload_n 1, 1) := by decide +kernel
theorem dX4_readPart_119 : decode cX4_readPart 119 = .ok (.iload_n 2, 1) := by decide +kernel
theorem dX4_readPart_120 : decode cX4_readPart 120 = .ok (.iconst 1, 1) := by decide +kernel
theorem dX4_readPart_121 : decode cX4_readPart 121 = .ok (.iadd, 1) := by decide +kernel
theorem dX4_readPart_122 : decode cX4_readPart 122 = .ok (.invokevirtual 71, 3) := by decide +kernel
theorem dX4_readPart_125 : decode cX4_readPart 125 = .ok (.ifCond .ne 5, 3) := by decide +kernel
theorem dX4_readPart_128 : decode cX4_readPart 128 = .ok (.iconst 0, 1) := by decide +kernel
theorem dX4_readPart_129 : decode cX4_readPart 129 = .ok (.ireturn, 1) := by decide +kernel
theorem dX4_readPart_130 : decode cX4_readPart 130 = .ok (.aload_n 0, 1) := by decide +kernel
theorem dX4_readPart_131 : decode cX4_readPart 131 = .ok (.iload 5, 2) := by decide +kernel
theorem dX4_readPart_133 : decode cX4_readPart 133 = .ok (.invokevirtual 22, 3) := by decide +kernel
theorem dX4_readPart_136 : decode cX4_readPart 136 = .ok (.iconst 1, 1) := by decide +kernel
theorem dX4_readPart_137 : decode cX4_readPart 137 = .ok (.ireturn, 1) := by decide +kernel
theorem dX4_valueHere_0 : decode cX4_valueHere 0 = .ok (.aload_n 0, 1) := by decide +kernel
theorem dX4_valueHere_1 : decode cX4_valueHere 1 = .ok (.getfield 36, 3) := by decide +kernel
theorem dX4_valueHere_4 : decode cX4_valueHere 4 = .ok (.getstatic 101, 3) := by decide +kernel
theorem dX4_valueHere_7 : decode cX4_valueHere 7 = .ok (.if_acmp .ne 8, 3) := by decide +kernel
theorem dX4_valueHere_10 : decode cX4_valueHere 10 = .ok (.aload_n 0, 1) := by decide +kernel
theorem dX4_valueHere_11 : decode cX4_valueHere 11 = .ok (.getfield 104, 3) := by decide +kernel
theorem dX4_valueHere_14 : decode cX4_valueHere 14 = .ok (.ireturn, 1) := by decide +kernel
theorem dX4_valueHere_15 : decode cX4_valueHere 15 = .ok (.aload_n 0, 1) := by decide +kernel
theorem dX4_valueHere_16 : decode cX4_valueHere 16 = .ok (.getfield 36, 3) := by decide +kernel
theorem dX4_valueHere_19 : decode cX4_valueHere 19 = .ok (.getstatic 107, 3) := by decide +kernel
theorem dX4_valueHere_22 : decode cX4_valueHere 22 = .ok (.if_acmp .eq 6, 3) := by decide +kernel
theorem dX4_valueHere_25 : decode cX4_valueHere 25 = .ok (.bipush (-13), 2) := by decide +kernel
theorem dX4_valueHere_27 : decode cX4_valueHere 27 = .ok (.ireturn, 1) := by decide +kernel
theorem dX4_valueHere_28 : decode cX4_valueHere 28 = .ok (.aload_n 0, 1) := by decide +kernel
theorem dX4_valueHere_29 : decode cX4_valueHere 29 = .ok (.ldc 110, 2) := by decide +kernel
theorem dX4_valueHere_31 : decode cX4_valueHere 31 = .ok (.invokevirtual 112, 3) := by decide +kernel
theorem dX4_valueHere_34 : decode cX4_valueHere 34 = .ok (.ifCond .eq 5, 3) := by decide +kernel
theorem dX4_valueHere_37 : decode cX4_valueHere 37 = .ok (.iconst (-1), 1) := by decide +kernel
theorem dX4_valueHere_38 : decode cX4_valueHere 38 = .ok (.ireturn, 1) := by decide +kernel
theorem dX4_valueHere_39 : decode cX4_valueHere 39 = .ok (.aload_n 0, 1) := by decide +kernel
theorem dX4_valueHere_40 : decode cX4_valueHere 40 = .ok (.ldc 116, 2) := by decide +kernel
theorem dX4_valueHere_42 : decode cX4_valueHere 42 = .ok (.invokevirtual 112, 3) := by decide +kernel
theorem dX4_valueHere_45 : decode cX4_valueHere 45 = .ok (.ifCond .eq 6, 3) := by decide +kernel
theorem dX4_valueHere_48 : decode cX4_valueHere 48 = .ok (.bipush (-2), 2) := by decide +kernel
theorem dX4_valueHere_50 : decode cX4_valueHere 50 = .ok (.ireturn, 1) := by decide +kernel
theorem dX4_valueHere_51 : decode cX4_valueHere 51 = .ok (.aload_n 0, 1) := by decide +kernel
theorem dX4_valueHere_52 : decode cX4_valueHere 52 = .ok (.ldc 118, 2) := by decide +kernel
theorem dX4_valueHere_54 : decode cX4_valueHere 54 = .ok (.invokevirtual 112, 3) := by decide +kernel
theorem dX4_valueHere_57 : decode cX4_valueHere 57 = .ok (.ifCond .eq 6, 3) := by decide +kernel
theorem dX4_valueHere_60 : decode cX4_valueHere 60 = .ok (.bipush (-3), 2) := by decide +kernel
theorem dX4_valueHere_62 : decode cX4_valueHere 62 = .ok (.ireturn, 1) := by decide +kernel
theorem dX4_valueHere_63 : decode cX4_valueHere 63 = .ok (.aload_n 0, 1) := by decide +kernel
theorem dX4_valueHere_64 : decode cX4_valueHere 64 = .ok (.ldc 120, 2) := by decide +kernel
theorem dX4_valueHere_66 : decode cX4_valueHere 66 = .ok (.invokevirtual 112, 3) := by decide +kernel
theorem dX4_valueHere_69 : decode cX4_valueHere 69 = .ok (.ifCond .eq 8, 3) := by decide +kernel
theorem dX4_valueHere_72 : decode cX4_valueHere 72 = .ok (.bipush (-4), 2) := by decide +kernel
theorem dX4_valueHere_74 : decode cX4_valueHere 74 = .ok (.goto 5, 3) := by decide +kernel
theorem dX4_valueHere_77 : decode cX4_valueHere 77 = .ok (.bipush (-13), 2) := by decide +kernel
theorem dX4_valueHere_79 : decode cX4_valueHere 79 = .ok (.ireturn, 1) := by decide +kernel
theorem dX4_passes_0 : decode cX4_passes 0 = .ok (.iconst 0, 1) := by decide +kernel
theorem dX4_passes_1 : decode cX4_passes 1 = .ok (.istore 5, 2) := by decide +kernel
theorem dX4_passes_3 : decode cX4_passes 3 = .ok (.iconst 0, 1) := by decide +kernel
theorem dX4_passes_4 : decode cX4_passes 4 = .ok (.istore 6, 2) := by decide +kernel
theorem dX4_passes_6 : decode cX4_passes 6 = .ok (.iload 6, 2) := by decide +kernel
theorem dX4_passes_8 : decode cX4_passes 8 = .ok (.aload_n 0, 1) := by decide +kernel
theorem dX4_passes_9 : decode cX4_passes 9 = .ok (.getfield 18, 3) := by decide +kernel
theorem dX4_passes_12 : decode cX4_passes 12 = .ok (.if_icmp .ge 144, 3) := by decide +kernel
theorem dX4_passes_15 : decode cX4_passes 15 = .ok (.aload_n 0, 1) := by decide +kernel
theorem dX4_passes_16 : decode cX4_passes 16 = .ok (.getfield 9, 3) := by decide +kernel
theorem dX4_passes_19 : decode cX4_passes 19 = .ok (.iload 6, 2) := by decide +kernel
theorem dX4_passes_21 : decode cX4_passes 21 = .ok (.iaload, 1) := by decide +kernel
theorem dX4_passes_22 : decode cX4_passes 22 = .ok (.istore 7, 2) := by decide +kernel
theorem dX4_passes_24 : decode cX4_passes 24 = .ok (.iload 7, 2) := by decide +kernel
theorem dX4_passes_26 : decode cX4_passes 26 = .ok (.bipush (-5), 2) := by decide +kernel
theorem dX4_passes_28 : decode cX4_passes 28 = .ok (.if_icmp .le 35, 3) := by decide +kernel
theorem dX4_passes_31 : decode cX4_passes 31 = .ok (.iload 5, 2) := by decide +kernel
theorem dX4_passes_33 : decode cX4_passes 33 = .ok (.bipush 32, 2) := by decide +kernel
theorem dX4_passes_35 : decode cX4_passes 35 = .ok (.if_icmp .lt 5, 3) := by decide +kernel
theorem dX4_passes_38 : decode cX4_passes 38 = .ok (.iconst 0, 1) := by decide +kernel
theorem dX4_passes_39 : decode cX4_passes 39 = .ok (.ireturn, 1) := by decide +kernel
theorem dX4_passes_40 : decode cX4_passes 40 = .ok (.aload_n 0, 1) := by decide +kernel
theorem dX4_passes_41 : decode cX4_passes 41 = .ok (.getfield 15, 3) := by decide +kernel
theorem dX4_passes_44 : decode cX4_passes 44 = .ok (.iload 5, 2) := by decide +kernel
theorem dX4_passes_46 : decode cX4_passes 46 = .ok (.iload 7, 2) := by decide +kernel
theorem dX4_passes_48 : decode cX4_passes 48 = .ok (.iload_n 1, 1) := by decide +kernel
theorem dX4_passes_49 : decode cX4_passes 49 = .ok (.iload_n 2, 1) := by decide +kernel
theorem dX4_passes_50 : decode cX4_passes 50 = .ok (.iload_n 3, 1) := by decide +kernel
theorem dX4_passes_51 : decode cX4_passes 51 = .ok (.iload 4, 2) := by decide +kernel
theorem dX4_passes_53 : decode cX4_passes 53 = .ok (.invokestatic 122, 3) := by decide +kernel
theorem dX4_passes_56 : decode cX4_passes 56 = .ok (.iastore, 1) := by decide +kernel
theorem dX4_passes_57 : decode cX4_passes 57 = .ok (.iinc 5 1, 3) := by decide +kernel
theorem dX4_passes_60 : decode cX4_passes 60 = .ok (.goto 90, 3) := by decide +kernel
theorem dX4_passes_63 : decode cX4_passes 63 = .ok (.iload 7, 2) := by decide +kernel
theorem dX4_passes_65 : decode cX4_passes 65 = .ok (.bipush (-5), 2) := by decide +kernel
theorem dX4_passes_67 : decode cX4_passes 67 = .ok (.if_icmp .ne 37, 3) := by decide +kernel
theorem dX4_passes_70 : decode cX4_passes 70 = .ok (.iload 5, 2) := by decide +kernel
theorem dX4_passes_72 : decode cX4_passes 72 = .ok (.ifCond .le 32, 3) := by decide +kernel
theorem dX4_passes_75 : decode cX4_passes 75 = .ok (.aload_n 0, 1) := by decide +kernel
theorem dX4_passes_76 : decode cX4_passes 76 = .ok (.getfield 15, 3) := by decide +kernel
theorem dX4_passes_79 : decode cX4_passes 79 = .ok (.iload 5, 2) := by decide +kernel
theorem dX4_passes_81 : decode cX4_passes 81 = .ok (.iconst 1, 1) := by decide +kernel
theorem dX4_passes_82 : decode cX4_passes 82 = .ok (.isub, 1) := by decide +kernel
theorem dX4_passes_83 : decode cX4_passes 83 = .ok (.aload_n 0, 1) := by decide +kernel
theorem dX4_passes_84 : decode cX4_passes 84 = .ok (.getfield 15, 3) := by decide +kernel
theorem dX4_passes_87 : decode cX4_passes 87 = .ok (.iload 5, 2) := by decide +kernel
theorem dX4_passes_89 : decode cX4_passes 89 = .ok (.iconst 1, 1) := by decide +kernel
theorem dX4_passes_90 : decode cX4_passes 90 = .ok (.isub, 1) := by decide +kernel
theorem dX4_passes_91 : decode cX4_passes 91 = .ok (.iaload, 1) := by decide +kernel
theorem dX4_passes_92 : decode cX4_passes 92 = .ok (.ifCond .ne 7, 3) := by decide +kernel
theorem dX4_passes_95 : decode cX4_passes 95 = .ok (.iconst 1, 1) := by decide +kernel
theorem dX4_passes_96 : decode cX4_passes 96 = .ok (.goto 4, 3) := by decide +kernel
theorem dX4_passes_99 : decode cX4_passes 99 = .ok (.iconst 0, 1) := by decide +kernel
theorem dX4_passes_100 : decode cX4_passes 100 = .ok (.iastore, 1) := by decide +kernel
theorem dX4_passes_101 : decode cX4_passes 101 = .ok (.goto 49, 3) := by decide +kernel
theorem dX4_passes_104 : decode cX4_passes 104 = .ok (.iload 7, 2) := by decide +kernel
theorem dX4_passes_106 : decode cX4_passes 106 = .ok (.bipush (-5), 2) := by decide +kernel
theorem dX4_passes_108 : decode cX4_passes 108 = .ok (.if_icmp .ge 42, 3) := by decide +kernel
theorem dX4_passes_111 : decode cX4_passes 111 = .ok (.iload 5, 2) := by decide +kernel
theorem dX4_passes_113 : decode cX4_passes 113 = .ok (.iconst 1, 1) := by decide +kernel
theorem dX4_passes_114 : decode cX4_passes 114 = .ok (.if_icmp .le 36, 3) := by decide +kernel
theorem dX4_passes_117 : decode cX4_passes 117 = .ok (.iinc 5 (-1), 3) := by decide +kernel
theorem dX4_passes_120 : decode cX4_passes 120 = .ok (.aload_n 0, 1) := by decide +kernel
theorem dX4_passes_121 : decode cX4_passes 121 = .ok (.getfield 15, 3) := by decide +kernel
theorem dX4_passes_124 : decode cX4_passes 124 = .ok (.iload 5, 2) := by decide +kernel
theorem dX4_passes_126 : decode cX4_passes 126 = .ok (.iconst 1, 1) := by decide +kernel
theorem dX4_passes_127 : decode cX4_passes 127 = .ok (.isub, 1) := by decide +kernel
theorem dX4_passes_128 : decode cX4_passes 128 = .ok (.iload 7, 2) := by decide +kernel
theorem dX4_passes_130 : decode cX4_passes 130 = .ok (.aload_n 0, 1) := by decide +kernel
theorem dX4_passes_131 : decode cX4_passes 131 = .ok (.getfield 15, 3) := by decide +kernel
theorem dX4_passes_134 : decode cX4_passes 134 = .ok (.iload 5, 2) := by decide +kernel
theorem dX4_passes_136 : decode cX4_passes 136 = .ok (.iconst 1, 1) := by decide +kernel
theorem dX4_passes_137 : decode cX4_passes 137 = .ok (.isub, 1) := by decide +kernel
theorem dX4_passes_138 : decode cX4_passes 138 = .ok (.iaload, 1) := by decide +kernel
theorem dX4_passes_139 : decode cX4_passes 139 = .ok (.aload_n 0, 1) := by decide +kernel
theorem dX4_passes_140 : decode cX4_passes 140 = .ok (.getfield 15, 3) := by decide +kernel
theorem dX4_passes_143 : decode cX4_passes 143 = .ok (.iload 5, 2) := by decide +kernel
theorem dX4_passes_145 : decode cX4_passes 145 = .ok (.iaload, 1) := by decide +kernel
theorem dX4_passes_146 : decode cX4_passes 146 = .ok (.invokestatic 126, 3) := by decide +kernel
theorem dX4_passes_149 : decode cX4_passes 149 = .ok (.iastore, 1) := by decide +kernel
theorem dX4_passes_150 : decode cX4_passes 150 = .ok (.iinc 6 1, 3) := by decide +kernel
theorem dX4_passes_153 : decode cX4_passes 153 = .ok (.goto (-147), 3) := by decide +kernel
theorem dX4_passes_156 : decode cX4_passes 156 = .ok (.iload 5, 2) := by decide +kernel
theorem dX4_passes_158 : decode cX4_passes 158 = .ok (.ifCond .le 19, 3) := by decide +kernel
theorem dX4_passes_161 : decode cX4_passes 161 = .ok (.aload_n 0, 1) := by decide +kernel
theorem dX4_passes_162 : decode cX4_passes 162 = .ok (.getfield 15, 3) := by decide +kernel
theorem dX4_passes_165 : decode cX4_passes 165 = .ok (.iload 5, 2) := by decide +kernel
theorem dX4_passes_167 : decode cX4_passes 167 = .ok (.iconst 1, 1) := by decide +kernel
theorem dX4_passes_168 : decode cX4_passes 168 = .ok (.isub, 1) := by decide +kernel
theorem dX4_passes_169 : decode cX4_passes 169 = .ok (.iaload, 1) := by decide +kernel
theorem dX4_passes_170 : decode cX4_passes 170 = .ok (.ifCond .eq 7, 3) := by decide +kernel
theorem dX4_passes_173 : decode cX4_passes 173 = .ok (.iconst 1, 1) := by decide +kernel
theorem dX4_passes_174 : decode cX4_passes 174 = .ok (.goto 4, 3) := by decide +kernel
theorem dX4_passes_177 : decode cX4_passes 177 = .ok (.iconst 0, 1) := by decide +kernel
theorem dX4_passes_178 : decode cX4_passes 178 = .ok (.ireturn, 1) := by decide +kernel
theorem dX4_valueOf_0 : decode cX4_valueOf 0 = .ok (.iload_n 0, 1) := by decide +kernel
theorem dX4_valueOf_1 : decode cX4_valueOf 1 = .ok (.tableswitch 40 (-4) (-1) #[37, 35, 33, 31], 31) := by decide +kernel
theorem dX4_valueOf_32 : decode cX4_valueOf 32 = .ok (.iload_n 1, 1) := by decide +kernel
theorem dX4_valueOf_33 : decode cX4_valueOf 33 = .ok (.ireturn, 1) := by decide +kernel
theorem dX4_valueOf_34 : decode cX4_valueOf 34 = .ok (.iload_n 2, 1) := by decide +kernel
theorem dX4_valueOf_35 : decode cX4_valueOf 35 = .ok (.ireturn, 1) := by decide +kernel
theorem dX4_valueOf_36 : decode cX4_valueOf 36 = .ok (.iload_n 3, 1) := by decide +kernel
theorem dX4_valueOf_37 : decode cX4_valueOf 37 = .ok (.ireturn, 1) := by decide +kernel
theorem dX4_valueOf_38 : decode cX4_valueOf 38 = .ok (.iload 4, 2) := by decide +kernel
theorem dX4_valueOf_40 : decode cX4_valueOf 40 = .ok (.ireturn, 1) := by decide +kernel
theorem dX4_valueOf_41 : decode cX4_valueOf 41 = .ok (.iload_n 0, 1) := by decide +kernel
theorem dX4_valueOf_42 : decode cX4_valueOf 42 = .ok (.ireturn, 1) := by decide +kernel
theorem dX4_join_0 : decode cX4_join 0 = .ok (.iload_n 0, 1) := by decide +kernel
theorem dX4_join_1 : decode cX4_join 1 = .ok (.tableswitch 97 (-11) (-6) #[93, 89, 78, 67, 53, 39], 39) := by decide +kernel
theorem dX4_join_40 : decode cX4_join 40 = .ok (.iload_n 1, 1) := by decide +kernel
theorem dX4_join_41 : decode cX4_join 41 = .ok (.ifCond .eq 11, 3) := by decide +kernel
theorem dX4_join_44 : decode cX4_join 44 = .ok (.iload_n 2, 1) := by decide +kernel
theorem dX4_join_45 : decode cX4_join 45 = .ok (.ifCond .eq 7, 3) := by decide +kernel
theorem dX4_join_48 : decode cX4_join 48 = .ok (.iconst 1, 1) := by decide +kernel
theorem dX4_join_49 : decode cX4_join 49 = .ok (.goto 4, 3) := by decide +kernel
theorem dX4_join_52 : decode cX4_join 52 = .ok (.iconst 0, 1) := by decide +kernel
theorem dX4_join_53 : decode cX4_join 53 = .ok (.ireturn, 1) := by decide +kernel
theorem dX4_join_54 : decode cX4_join 54 = .ok (.iload_n 1, 1) := by decide +kernel
theorem dX4_join_55 : decode cX4_join 55 = .ok (.ifCond .ne 7, 3) := by decide +kernel
theorem dX4_join_58 : decode cX4_join 58 = .ok (.iload_n 2, 1) := by decide +kernel
theorem dX4_join_59 : decode cX4_join 59 = .ok (.ifCond .eq 7, 3) := by decide +kernel
theorem dX4_join_62 : decode cX4_join 62 = .ok (.iconst 1, 1) := by decide +kernel
theorem dX4_join_63 : decode cX4_join 63 = .ok (.goto 4, 3) := by decide +kernel
theorem dX4_join_66 : decode cX4_join 66 = .ok (.iconst 0, 1) := by decide +kernel
theorem dX4_join_67 : decode cX4_join 67 = .ok (.ireturn, 1) := by decide +kernel
theorem dX4_join_68 : decode cX4_join 68 = .ok (.iload_n 1, 1) := by decide +kernel
theorem dX4_join_69 : decode cX4_join 69 = .ok (.iload_n 2, 1) := by decide +kernel
theorem dX4_join_70 : decode cX4_join 70 = .ok (.if_icmp .ge 7, 3) := by decide +kernel
theorem dX4_join_73 : decode cX4_join 73 = .ok (.iconst 1, 1) := by decide +kernel
theorem dX4_join_74 : decode cX4_join 74 = .ok (.goto 4, 3) := by decide +kernel
theorem dX4_join_77 : decode cX4_join 77 = .ok (.iconst 0, 1) := by decide +kernel
theorem dX4_join_78 : decode cX4_join 78 = .ok (.ireturn, 1) := by decide +kernel
theorem dX4_join_79 : decode cX4_join 79 = .ok (.iload_n 1, 1) := by decide +kernel
theorem dX4_join_80 : decode cX4_join 80 = .ok (.iload_n 2, 1) := by decide +kernel
theorem dX4_join_81 : decode cX4_join 81 = .ok (.if_icmp .ne 7, 3) := by decide +kernel
theorem dX4_join_84 : decode cX4_join 84 = .ok (.iconst 1, 1) := by decide +kernel
theorem dX4_join_85 : decode cX4_join 85 = .ok (.goto 4, 3) := by decide +kernel
theorem dX4_join_88 : decode cX4_join 88 = .ok (.iconst 0, 1) := by decide +kernel
theorem dX4_join_89 : decode cX4_join 89 = .ok (.ireturn, 1) := by decide +kernel
theorem dX4_join_90 : decode cX4_join 90 = .ok (.iload_n 1, 1) := by decide +kernel
theorem dX4_join_91 : decode cX4_join 91 = .ok (.iload_n 2, 1) := by decide +kernel
theorem dX4_join_92 : decode cX4_join 92 = .ok (.iadd, 1) := by decide +kernel
theorem dX4_join_93 : decode cX4_join 93 = .ok (.ireturn, 1) := by decide +kernel
theorem dX4_join_94 : decode cX4_join 94 = .ok (.iload_n 1, 1) := by decide +kernel
theorem dX4_join_95 : decode cX4_join 95 = .ok (.iload_n 2, 1) := by decide +kernel
theorem dX4_join_96 : decode cX4_join 96 = .ok (.isub, 1) := by decide +kernel
theorem dX4_join_97 : decode cX4_join 97 = .ok (.ireturn, 1) := by decide +kernel
theorem dX4_join_98 : decode cX4_join 98 = .ok (.iload_n 1, 1) := by decide +kernel
theorem dX4_join_99 : decode cX4_join 99 = .ok (.iload_n 2, 1) := by decide +kernel
theorem dX4_join_100 : decode cX4_join 100 = .ok (.imul, 1) := by decide +kernel
theorem dX4_join_101 : decode cX4_join 101 = .ok (.ireturn, 1) := by decide +kernel
theorem dX5_lay_0 : decode cX5_lay 0 = .ok (.aload_n 0, 1) := by decide +kernel
theorem dX5_lay_1 : decode cX5_lay 1 = .ok (.getfield 10, 3) := by decide +kernel
theorem dX5_lay_4 : decode cX5_lay 4 = .ok (.aload_n 1, 1) := by decide +kernel
theorem dX5_lay_5 : decode cX5_lay 5 = .ok (.invokevirtual 34, 3) := by decide +kernel
theorem dX5_lay_8 : decode cX5_lay 8 = .ok (.aload_n 0, 1) := by decide +kernel
theorem dX5_lay_9 : decode cX5_lay 9 = .ok (.getfield 19, 3) := by decide +kernel
theorem dX5_lay_12 : decode cX5_lay 12 = .ok (.aload_n 2, 1) := by decide +kernel
theorem dX5_lay_13 : decode cX5_lay 13 = .ok (.invokevirtual 38, 3) := by decide +kernel
theorem dX5_lay_16 : decode cX5_lay 16 = .ok (.aload_n 0, 1) := by decide +kernel
theorem dX5_lay_17 : decode cX5_lay 17 = .ok (.getfield 26, 3) := by decide +kernel
theorem dX5_lay_20 : decode cX5_lay 20 = .ok (.aload_n 3, 1) := by decide +kernel
theorem dX5_lay_21 : decode cX5_lay 21 = .ok (.invokevirtual 41, 3) := by decide +kernel
theorem dX5_lay_24 : decode cX5_lay 24 = .ok (.aload_n 0, 1) := by decide +kernel
theorem dX5_lay_25 : decode cX5_lay 25 = .ok (.iconst 1, 1) := by decide +kernel
theorem dX5_lay_26 : decode cX5_lay 26 = .ok (.putfield 30, 3) := by decide +kernel
theorem dX5_lay_29 : decode cX5_lay 29 = .ok (.return_, 1) := by decide +kernel
theorem dX6_clear_0 : decode cX6_clear 0 = .ok (.aload_n 0, 1) := by decide +kernel
theorem dX6_clear_1 : decode cX6_clear 1 = .ok (.ldc 9, 2) := by decide +kernel
theorem dX6_clear_3 : decode cX6_clear 3 = .ok (.putfield 10, 3) := by decide +kernel
theorem dX6_clear_6 : decode cX6_clear 6 = .ok (.aload_n 0, 1) := by decide +kernel
theorem dX6_clear_7 : decode cX6_clear 7 = .ok (.iconst 0, 1) := by decide +kernel
theorem dX6_clear_8 : decode cX6_clear 8 = .ok (.putfield 16, 3) := by decide +kernel
theorem dX6_clear_11 : decode cX6_clear 11 = .ok (.return_, 1) := by decide +kernel
theorem dX6_copy_0 : decode cX6_copy 0 = .ok (.aload_n 0, 1) := by decide +kernel
theorem dX6_copy_1 : decode cX6_copy 1 = .ok (.aload_n 1, 1) := by decide +kernel
theorem dX6_copy_2 : decode cX6_copy 2 = .ok (.getfield 10, 3) := by decide +kernel
theorem dX6_copy_5 : decode cX6_copy 5 = .ok (.putfield 10, 3) := by decide +kernel
theorem dX6_copy_8 : decode cX6_copy 8 = .ok (.aload_n 0, 1) := by decide +kernel
theorem dX6_copy_9 : decode cX6_copy 9 = .ok (.aload_n 1, 1) := by decide +kernel
theorem dX6_copy_10 : decode cX6_copy 10 = .ok (.getfield 16, 3) := by decide +kernel
theorem dX6_copy_13 : decode cX6_copy 13 = .ok (.putfield 16, 3) := by decide +kernel
theorem dX6_copy_16 : decode cX6_copy 16 = .ok (.return_, 1) := by decide +kernel
theorem dX6_add_0 : decode cX6_add 0 = .ok (.aload_n 0, 1) := by decide +kernel
theorem dX6_add_1 : decode cX6_add 1 = .ok (.dup, 1) := by decide +kernel
theorem dX6_add_2 : decode cX6_add 2 = .ok (.getfield 10, 3) := by decide +kernel
theorem dX6_add_5 : decode cX6_add 5 = .ok (.iload_n 1, 1) := by decide +kernel
theorem dX6_add_6 : decode cX6_add 6 = .ok (.iand, 1) := by decide +kernel
theorem dX6_add_7 : decode cX6_add 7 = .ok (.putfield 10, 3) := by decide +kernel
theorem dX6_add_10 : decode cX6_add 10 = .ok (.aload_n 0, 1) := by decide +kernel
theorem dX6_add_11 : decode cX6_add 11 = .ok (.dup, 1) := by decide +kernel
theorem dX6_add_12 : decode cX6_add 12 = .ok (.getfield 16, 3) := by decide +kernel
theorem dX6_add_15 : decode cX6_add 15 = .ok (.iconst 1, 1) := by decide +kernel
theorem dX6_add_16 : decode cX6_add 16 = .ok (.iadd, 1) := by decide +kernel
theorem dX6_add_17 : decode cX6_add 17 = .ok (.putfield 16, 3) := by decide +kernel
theorem dX6_add_20 : decode cX6_add 20 = .ok (.return_, 1) := by decide +kernel
theorem dX8_begin_0 : decode cX8_begin 0 = .ok (.aload_n 0, 1) := by decide +kernel
theorem dX8_begin_1 : decode cX8_begin 1 = .ok (.iconst 0, 1) := by decide +kernel
theorem dX8_begin_2 : decode cX8_begin 2 = .ok (.putfield 27, 3) := by decide +kernel
theorem dX8_begin_5 : decode cX8_begin 5 = .ok (.iconst 0, 1) := by decide +kernel
theorem dX8_begin_6 : decode cX8_begin 6 = .ok (.istore_n 2, 1) := by decide +kernel
theorem dX8_begin_7 : decode cX8_begin 7 = .ok (.iload_n 2, 1) := by decide +kernel
theorem dX8_begin_8 : decode cX8_begin 8 = .ok (.aload_n 1, 1) := by decide +kernel
theorem dX8_begin_9 : decode cX8_begin 9 = .ok (.getfield 31, 3) := by decide +kernel
theorem dX8_begin_12 : decode cX8_begin 12 = .ok (.if_icmp .ge 66, 3) := by decide +kernel
theorem dX8_begin_15 : decode cX8_begin 15 = .ok (.aload_n 0, 1) := by decide +kernel
theorem dX8_begin_16 : decode cX8_begin 16 = .ok (.getfield 9, 3) := by decide +kernel
theorem dX8_begin_19 : decode cX8_begin 19 = .ok (.iload_n 2, 1) := by decide +kernel
theorem dX8_begin_20 : decode cX8_begin 20 = .ok (.aload_n 1, 1) := by decide +kernel
theorem dX8_begin_21 : decode cX8_begin 21 = .ok (.getfield 36, 3) := by decide +kernel
theorem dX8_begin_24 : decode cX8_begin 24 = .ok (.iload_n 2, 1) := by decide +kernel
theorem dX8_begin_25 : decode cX8_begin 25 = .ok (.iaload, 1) := by decide +kernel
theorem dX8_begin_26 : decode cX8_begin 26 = .ok (.iastore, 1) := by decide +kernel
theorem dX8_begin_27 : decode cX8_begin 27 = .ok (.aload_n 0, 1) := by decide +kernel
theorem dX8_begin_28 : decode cX8_begin 28 = .ok (.getfield 15, 3) := by decide +kernel
theorem dX8_begin_31 : decode cX8_begin 31 = .ok (.iload_n 2, 1) := by decide +kernel
theorem dX8_begin_32 : decode cX8_begin 32 = .ok (.aload_n 1, 1) := by decide +kernel
theorem dX8_begin_33 : decode cX8_begin 33 = .ok (.getfield 39, 3) := by decide +kernel
theorem dX8_begin_36 : decode cX8_begin 36 = .ok (.iload_n 2, 1) := by decide +kernel
theorem dX8_begin_37 : decode cX8_begin 37 = .ok (.iaload, 1) := by decide +kernel
theorem dX8_begin_38 : decode cX8_begin 38 = .ok (.iastore, 1) := by decide +kernel
theorem dX8_begin_39 : decode cX8_begin 39 = .ok (.aload_n 0, 1) := by decide +kernel
theorem dX8_begin_40 : decode cX8_begin 40 = .ok (.getfield 18, 3) := by decide +kernel
theorem dX8_begin_43 : decode cX8_begin 43 = .ok (.iload_n 2, 1) := by decide +kernel
theorem dX8_begin_44 : decode cX8_begin 44 = .ok (.iconst 0, 1) := by decide +kernel
theorem dX8_begin_45 : decode cX8_begin 45 = .ok (.iastore, 1) := by decide +kernel
theorem dX8_begin_46 : decode cX8_begin 46 = .ok (.aload_n 0, 1) := by decide +kernel
theorem dX8_begin_47 : decode cX8_begin 47 = .ok (.getfield 21, 3) := by decide +kernel
theorem dX8_begin_50 : decode cX8_begin 50 = .ok (.iload_n 2, 1) := by decide +kernel
theorem dX8_begin_51 : decode cX8_begin 51 = .ok (.aload_n 1, 1) := by decide +kernel
theorem dX8_begin_52 : decode cX8_begin 52 = .ok (.getfield 40, 3) := by decide +kernel
theorem dX8_begin_55 : decode cX8_begin 55 = .ok (.iload_n 2, 1) := by decide +kernel
theorem dX8_begin_56 : decode cX8_begin 56 = .ok (.iaload, 1) := by decide +kernel
theorem dX8_begin_57 : decode cX8_begin 57 = .ok (.iastore, 1) := by decide +kernel
theorem dX8_begin_58 : decode cX8_begin 58 = .ok (.aload_n 0, 1) := by decide +kernel
theorem dX8_begin_59 : decode cX8_begin 59 = .ok (.getfield 24, 3) := by decide +kernel
theorem dX8_begin_62 : decode cX8_begin 62 = .ok (.iload_n 2, 1) := by decide +kernel
theorem dX8_begin_63 : decode cX8_begin 63 = .ok (.iconst 1, 1) := by decide +kernel
theorem dX8_begin_64 : decode cX8_begin 64 = .ok (.aload_n 1, 1) := by decide +kernel
theorem dX8_begin_65 : decode cX8_begin 65 = .ok (.getfield 36, 3) := by decide +kernel
theorem dX8_begin_68 : decode cX8_begin 68 = .ok (.iload_n 2, 1) := by decide +kernel
theorem dX8_begin_69 : decode cX8_begin 69 = .ok (.iaload, 1) := by decide +kernel
theorem dX8_begin_70 : decode cX8_begin 70 = .ok (.ishl, 1) := by decide +kernel
theorem dX8_begin_71 : decode cX8_begin 71 = .ok (.iastore, 1) := by decide +kernel
theorem dX8_begin_72 : decode cX8_begin 72 = .ok (.iinc 2 1, 3) := by decide +kernel
theorem dX8_begin_75 : decode cX8_begin 75 = .ok (.goto (-68), 3) := by decide +kernel
theorem dX8_begin_78 : decode cX8_begin 78 = .ok (.return_, 1) := by decide +kernel
theorem dX8_copy_0 : decode cX8_copy 0 = .ok (.aload_n 0, 1) := by decide +kernel
theorem dX8_copy_1 : decode cX8_copy 1 = .ok (.aload_n 1, 1) := by decide +kernel
theorem dX8_copy_2 : decode cX8_copy 2 = .ok (.getfield 27, 3) := by decide +kernel
theorem dX8_copy_5 : decode cX8_copy 5 = .ok (.putfield 27, 3) := by decide +kernel
theorem dX8_copy_8 : decode cX8_copy 8 = .ok (.aload_n 1, 1) := by decide +kernel
theorem dX8_copy_9 : decode cX8_copy 9 = .ok (.getfield 9, 3) := by decide +kernel
theorem dX8_copy_12 : decode cX8_copy 12 = .ok (.iconst 0, 1) := by decide +kernel
theorem dX8_copy_13 : decode cX8_copy 13 = .ok (.aload_n 0, 1) := by decide +kernel
theorem dX8_copy_14 : decode cX8_copy 14 = .ok (.getfield 9, 3) := by decide +kernel
theorem dX8_copy_17 : decode cX8_copy 17 = .ok (.iconst 0, 1) := by decide +kernel
theorem dX8_copy_18 : decode cX8_copy 18 = .ok (.bipush 6, 2) := by decide +kernel
theorem dX8_copy_20 : decode cX8_copy 20 = .ok (.invokestatic 41, 3) := by decide +kernel
theorem dX8_copy_23 : decode cX8_copy 23 = .ok (.aload_n 1, 1) := by decide +kernel
theorem dX8_copy_24 : decode cX8_copy 24 = .ok (.getfield 15, 3) := by decide +kernel
theorem dX8_copy_27 : decode cX8_copy 27 = .ok (.iconst 0, 1) := by decide +kernel
theorem dX8_copy_28 : decode cX8_copy 28 = .ok (.aload_n 0, 1) := by decide +kernel
theorem dX8_copy_29 : decode cX8_copy 29 = .ok (.getfield 15, 3) := by decide +kernel
theorem dX8_copy_32 : decode cX8_copy 32 = .ok (.iconst 0, 1) := by decide +kernel
theorem dX8_copy_33 : decode cX8_copy 33 = .ok (.bipush 6, 2) := by decide +kernel
theorem dX8_copy_35 : decode cX8_copy 35 = .ok (.invokestatic 41, 3) := by decide +kernel
theorem dX8_copy_38 : decode cX8_copy 38 = .ok (.aload_n 1, 1) := by decide +kernel
theorem dX8_copy_39 : decode cX8_copy 39 = .ok (.getfield 18, 3) := by decide +kernel
theorem dX8_copy_42 : decode cX8_copy 42 = .ok (.iconst 0, 1) := by decide +kernel
theorem dX8_copy_43 : decode cX8_copy 43 = .ok (.aload_n 0, 1) := by decide +kernel
theorem dX8_copy_44 : decode cX8_copy 44 = .ok (.getfield 18, 3) := by decide +kernel
theorem dX8_copy_47 : decode cX8_copy 47 = .ok (.iconst 0, 1) := by decide +kernel
theorem dX8_copy_48 : decode cX8_copy 48 = .ok (.bipush 6, 2) := by decide +kernel
theorem dX8_copy_50 : decode cX8_copy 50 = .ok (.invokestatic 41, 3) := by decide +kernel
theorem dX8_copy_53 : decode cX8_copy 53 = .ok (.aload_n 1, 1) := by decide +kernel
theorem dX8_copy_54 : decode cX8_copy 54 = .ok (.getfield 21, 3) := by decide +kernel
theorem dX8_copy_57 : decode cX8_copy 57 = .ok (.iconst 0, 1) := by decide +kernel
theorem dX8_copy_58 : decode cX8_copy 58 = .ok (.aload_n 0, 1) := by decide +kernel
theorem dX8_copy_59 : decode cX8_copy 59 = .ok (.getfield 21, 3) := by decide +kernel
theorem dX8_copy_62 : decode cX8_copy 62 = .ok (.iconst 0, 1) := by decide +kernel
theorem dX8_copy_63 : decode cX8_copy 63 = .ok (.bipush 6, 2) := by decide +kernel
theorem dX8_copy_65 : decode cX8_copy 65 = .ok (.invokestatic 41, 3) := by decide +kernel
theorem dX8_copy_68 : decode cX8_copy 68 = .ok (.aload_n 1, 1) := by decide +kernel
