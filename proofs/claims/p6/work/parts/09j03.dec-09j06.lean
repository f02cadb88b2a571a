theorem dX4_readSum_47 : decode cX4_readSum 47 = .ok (.if_acmp .ne 8, 3) := by decide +kernel
theorem dX4_readSum_50 : decode cX4_readSum 50 = .ok (.bipush (-10), 2) := by decide +kernel
theorem dX4_readSum_52 : decode cX4_readSum 52 = .ok (.goto 5, 3) := by decide +kernel
theorem dX4_readSum_55 : decode cX4_readSum 55 = .ok (.bipush (-11), 2) := by decide +kernel
theorem dX4_readSum_57 : decode cX4_readSum 57 = .ok (.istore 4, 2) := by decide +kernel
theorem dX4_readSum_59 : decode cX4_readSum 59 = .ok (.aload_n 1, 1) := by decide +kernel
theorem dX4_readSum_60 : decode cX4_readSum 60 = .ok (.invokevirtual 50, 3) := by decide +kernel
theorem dX4_readSum_63 : decode cX4_readSum 63 = .ok (.aload_n 0, 1) := by decide +kernel
theorem dX4_readSum_64 : decode cX4_readSum 64 = .ok (.aload_n 1, 1) := by decide +kernel
theorem dX4_readSum_65 : decode cX4_readSum 65 = .ok (.iload_n 2, 1) := by decide +kernel
theorem dX4_readSum_66 : decode cX4_readSum 66 = .ok (.invokevirtual 62, 3) := by decide +kernel
theorem dX4_readSum_69 : decode cX4_readSum 69 = .ok (.ifCond .ne 5, 3) := by decide +kernel
theorem dX4_readSum_72 : decode cX4_readSum 72 = .ok (.iconst 0, 1) := by decide +kernel
theorem dX4_readSum_73 : decode cX4_readSum 73 = .ok (.ireturn, 1) := by decide +kernel
theorem dX4_readSum_74 : decode cX4_readSum 74 = .ok (.aload_n 0, 1) := by decide +kernel
theorem dX4_readSum_75 : decode cX4_readSum 75 = .ok (.iload 4, 2) := by decide +kernel
theorem dX4_readSum_77 : decode cX4_readSum 77 = .ok (.invokevirtual 22, 3) := by decide +kernel
theorem dX4_readSum_80 : decode cX4_readSum 80 = .ok (.iinc 3 1, 3) := by decide +kernel
theorem dX4_readSum_83 : decode cX4_readSum 83 = .ok (.goto (-70), 3) := by decide +kernel
theorem dX4_readSum_86 : decode cX4_readSum 86 = .ok (.iconst 1, 1) := by decide +kernel
theorem dX4_readSum_87 : decode cX4_readSum 87 = .ok (.ireturn, 1) := by decide +kernel
theorem dX4_readProduct_0 : decode cX4_readProduct 0 = .ok (.aload_n 0, 1) := by decide +kernel
theorem dX4_readProduct_1 : decode cX4_readProduct 1 = .ok (.aload_n 1, 1) := by decide +kernel
theorem dX4_readProduct_2 : decode cX4_readProduct 2 = .ok (.iload_n 2, 1) := by decide +kernel
theorem dX4_readProduct_3 : decode cX4_readProduct 3 = .ok (.invokevirtual 71, 3) := by decide +kernel
theorem dX4_readProduct_6 : decode cX4_readProduct 6 = .ok (.ifCond .ne 5, 3) := by decide +kernel
theorem dX4_readProduct_9 : decode cX4_readProduct 9 = .ok (.iconst 0, 1) := by decide +kernel
theorem dX4_readProduct_10 : decode cX4_readProduct 10 = .ok (.ireturn, 1) := by decide +kernel
theorem dX4_readProduct_11 : decode cX4_readProduct 11 = .ok (.iconst 0, 1) := by decide +kernel
theorem dX4_readProduct_12 : decode cX4_readProduct 12 = .ok (.istore_n 3, 1) := by decide +kernel
theorem dX4_readProduct_13 : decode cX4_readProduct 13 = .ok (.iload_n 3, 1) := by decide +kernel
theorem dX4_readProduct_14 : decode cX4_readProduct 14 = .ok (.sipush 1000, 3) := by decide +kernel
theorem dX4_readProduct_17 : decode cX4_readProduct 17 = .ok (.if_icmp .ge 40, 3) := by decide +kernel
theorem dX4_readProduct_20 : decode cX4_readProduct 20 = .ok (.aload_n 1, 1) := by decide +kernel
theorem dX4_readProduct_21 : decode cX4_readProduct 21 = .ok (.getfield 36, 3) := by decide +kernel
theorem dX4_readProduct_24 : decode cX4_readProduct 24 = .ok (.getstatic 74, 3) := by decide +kernel
theorem dX4_readProduct_27 : decode cX4_readProduct 27 = .ok (.if_acmp .ne 30, 3) := by decide +kernel
theorem dX4_readProduct_30 : decode cX4_readProduct 30 = .ok (.aload_n 1, 1) := by decide +kernel
theorem dX4_readProduct_31 : decode cX4_readProduct 31 = .ok (.invokevirtual 50, 3) := by decide +kernel
theorem dX4_readProduct_34 : decode cX4_readProduct 34 = .ok (.aload_n 0, 1) := by decide +kernel
theorem dX4_readProduct_35 : decode cX4_readProduct 35 = .ok (.aload_n 1, 1) := by decide +kernel
theorem dX4_readProduct_36 : decode cX4_readProduct 36 = .ok (.iload_n 2, 1) := by decide +kernel
theorem dX4_readProduct_37 : decode cX4_readProduct 37 = .ok (.invokevirtual 71, 3) := by decide +kernel
theorem dX4_readProduct_40 : decode cX4_readProduct 40 = .ok (.ifCond .ne 5, 3) := by decide +kernel
theorem dX4_readProduct_43 : decode cX4_readProduct 43 = .ok (.iconst 0, 1) := by decide +kernel
theorem dX4_readProduct_44 : decode cX4_readProduct 44 = .ok (.ireturn, 1) := by decide +kernel
theorem dX4_readProduct_45 : decode cX4_readProduct 45 = .ok (.aload_n 0, 1) := by decide +kernel
theorem dX4_readProduct_46 : decode cX4_readProduct 46 = .ok (.bipush (-12), 2) := by decide +kernel
theorem dX4_readProduct_48 : decode cX4_readProduct 48 = .ok (.invokevirtual 22, 3) := by decide +kernel
theorem dX4_readProduct_51 : decode cX4_readProduct 51 = .ok (.iinc 3 1, 3) := by decide +kernel
theorem dX4_readProduct_54 : decode cX4_readProduct 54 = .ok (.goto (-41), 3) := by decide +kernel
theorem dX4_readProduct_57 : decode cX4_readProduct 57 = .ok (.iconst 1, 1) := by decide +kernel
theorem dX4_readProduct_58 : decode cX4_readProduct 58 = .ok (.ireturn, 1) := by decide +kernel
theorem dX4_readPart_0 : decode cX4_readPart 0 = .ok (.aload_n 1, 1) := by decide +kernel
theorem dX4_readPart_1 : decode cX4_readPart 1 = .ok (.getfield 36, 3) := by decide +kernel
theorem dX4_readPart_4 : decode cX4_readPart 4 = .ok (.getstatic 77, 3) := by decide +kernel
theorem dX4_readPart_7 : decode cX4_readPart 7 = .ok (.if_acmp .ne 7, 3) := by decide +kernel
theorem dX4_readPart_10 : decode cX4_readPart 10 = .ok (.iconst 1, 1) := by decide +kernel
theorem dX4_readPart_11 : decode cX4_readPart 11 = .ok (.goto 4, 3) := by decide +kernel
theorem dX4_readPart_14 : decode cX4_readPart 14 = .ok (.iconst 0, 1) := by decide +kernel
theorem dX4_readPart_15 : decode cX4_readPart 15 = .ok (.istore_n 3, 1) := by decide +kernel
theorem dX4_readPart_16 : decode cX4_readPart 16 = .ok (.aload_n 1, 1) := by decide +kernel
theorem dX4_readPart_17 : decode cX4_readPart 17 = .ok (.getfield 36, 3) := by decide +kernel
theorem dX4_readPart_20 : decode cX4_readPart 20 = .ok (.getstatic 80, 3) := by decide +kernel
theorem dX4_readPart_23 : decode cX4_readPart 23 = .ok (.if_acmp .ne 7, 3) := by decide +kernel
theorem dX4_readPart_26 : decode cX4_readPart 26 = .ok (.iconst 1, 1) := by decide +kernel
theorem dX4_readPart_27 : decode cX4_readPart 27 = .ok (.goto 4, 3) := by decide +kernel
theorem dX4_readPart_30 : decode cX4_readPart 30 = .ok (.iconst 0, 1) := by decide +kernel
theorem dX4_readPart_31 : decode cX4_readPart 31 = .ok (.istore 4, 2) := by decide +kernel
theorem dX4_readPart_33 : decode cX4_readPart 33 = .ok (.iload 4, 2) := by decide +kernel
theorem dX4_readPart_35 : decode cX4_readPart 35 = .ok (.ifCond .eq 8, 3) := by decide +kernel
theorem dX4_readPart_38 : decode cX4_readPart 38 = .ok (.bipush (-5), 2) := by decide +kernel
theorem dX4_readPart_40 : decode cX4_readPart 40 = .ok (.goto 7, 3) := by decide +kernel
theorem dX4_readPart_43 : decode cX4_readPart 43 = .ok (.aload_n 1, 1) := by decide +kernel
theorem dX4_readPart_44 : decode cX4_readPart 44 = .ok (.invokestatic 83, 3) := by decide +kernel
theorem dX4_readPart_47 : decode cX4_readPart 47 = .ok (.istore 5, 2) := by decide +kernel
theorem dX4_readPart_49 : decode cX4_readPart 49 = .ok (.iload_n 3, 1) := by decide +kernel
theorem dX4_readPart_50 : decode cX4_readPart 50 = .ok (.ifCond .ne 16, 3) := by decide +kernel
theorem dX4_readPart_53 : decode cX4_readPart 53 = .ok (.iload 5, 2) := by decide +kernel
theorem dX4_readPart_55 : decode cX4_readPart 55 = .ok (.bipush (-13), 2) := by decide +kernel
theorem dX4_readPart_57 : decode cX4_readPart 57 = .ok (.if_icmp .ne 9, 3) := by decide +kernel
theorem dX4_readPart_60 : decode cX4_readPart 60 = .ok (.aload_n 1, 1) := by decide +kernel
theorem dX4_readPart_61 : decode cX4_readPart 61 = .ok (.iconst 1, 1) := by decide +kernel
theorem dX4_readPart_62 : decode cX4_readPart 62 = .ok (.invokevirtual 87, 3) := by decide +kernel
theorem dX4_readPart_65 : decode cX4_readPart 65 = .ok (.ireturn, 1) := by decide +kernel
theorem dX4_readPart_66 : decode cX4_readPart 66 = .ok (.iload_n 2, 1) := by decide +kernel
theorem dX4_readPart_67 : decode cX4_readPart 67 = .ok (.iconst 5, 1) := by decide +kernel
theorem dX4_readPart_68 : decode cX4_readPart 68 = .ok (.if_icmp .lt 9, 3) := by decide +kernel
theorem dX4_readPart_71 : decode cX4_readPart 71 = .ok (.aload_n 1, 1) := by decide +kernel
theorem dX4_readPart_72 : decode cX4_readPart 72 = .ok (.iconst 5, 1) := by decide +kernel
theorem dX4_readPart_73 : decode cX4_readPart 73 = .ok (.invokevirtual 87, 3) := by decide +kernel
theorem dX4_readPart_76 : decode cX4_readPart 76 = .ok (.ireturn, 1) := by decide +kernel
theorem dX4_readPart_77 : decode cX4_readPart 77 = .ok (.aload_n 1, 1) := by decide +kernel
theorem dX4_readPart_78 : decode cX4_readPart 78 = .ok (.invokevirtual 50, 3) := by decide +kernel
theorem dX4_readPart_81 : decode cX4_readPart 81 = .ok (.iload_n 3, 1) := by decide +kernel
theorem dX4_readPart_82 : decode cX4_readPart 82 = .ok (.ifCond .eq 30, 3) := by decide +kernel
theorem dX4_readPart_85 : decode cX4_readPart 85 = .ok (.aload_n 0, 1) := by decide +kernel
theorem dX4_readPart_86 : decode cX4_readPart 86 = .ok (.aload_n 1, 1) := by decide +kernel
theorem dX4_readPart_87 : decode cX4_readPart 87 = .ok (.iload_n 2, 1) := by decide +kernel
theorem dX4_readPart_88 : decode cX4_readPart 88 = .ok (.iconst 1, 1) := by decide +kernel
theorem dX4_readPart_89 : decode cX4_readPart 89 = .ok (.iadd, 1) := by decide +kernel
theorem dX4_readPart_90 : decode cX4_readPart 90 = .ok (.invokevirtual 91, 3) := by decide +kernel
theorem dX4_readPart_93 : decode cX4_readPart 93 = .ok (.ifCond .eq 17, 3) := by decide +kernel
theorem dX4_readPart_96 : decode cX4_readPart 96 = .ok (.aload_n 1, 1) := by decide +kernel
theorem dX4_readPart_97 : decode cX4_readPart 97 = .ok (.getstatic 94, 3) := by decide +kernel
theorem dX4_readPart_100 : decode cX4_readPart 100 = .ok (.invokevirtual 97, 3) := by decide +kernel
theorem dX4_readPart_103 : decode cX4_readPart 103 = .ok (.ifCond .eq 7, 3) := by decide +kernel
theorem dX4_readPart_106 : decode cX4_readPart 106 = .ok (.iconst 1, 1) := by decide +kernel
theorem dX4_readPart_107 : decode cX4_readPart 107 = .ok (.goto 4, 3) := by decide +kernel
theorem dX4_readPart_110 : decode cX4_readPart 110 = .ok (.iconst 0, 1) := by decide +kernel
theorem dX4_readPart_111 : decode cX4_readPart 111 = .ok (.ireturn, 1) := by decide +kernel
theorem dX4_readPart_112 : decode cX4_readPart 112 = .ok (.iload 4, 2) := by decide +kernel
theorem dX4_readPart_114 : decode cX4_readPart 114 = .ok (.ifCond .eq 16, 3) := by decide +kernel
theorem dX4_readPart_117 : decode cX4_readPart 117 = .ok (.aload_n 0, 1) := by decide +kernel
theorem dX4_readPart_118 : decode cX4_readPart 118 = .ok (.aload_n 1, 1) := by decide +kernel
theorem dX4_readPart_119 : decode cX4_readPart 119 = .ok (.iload_n 2, 1) := by decide +kernel
theorem dX4_readPart_120 : decode cX4_readPart 120 = .ok (.iconst 1, 1) := by decide +kernel
theorem dX4_readPart_121 : decode cX4_readPart 121 = .ok (.iadd, 1) := by decide +kernel
theorem dX4_readPart_122 : decode cX4_readPart 122 = .ok (.invokevirtual 71, 3) := by decide +kernel
theorem dX4_readPart_125 : decode cX4_readPart 125 = .ok (.ifCond .ne 5, 3) := by decide +kernel
theorem dX4_readPart_128 : decode cX4_readPart 128 = .ok (.iconst 0, 1) := by decide +kernel
theorem dX4_readPart_129 : decode cX4_readPart 129 = .ok (.ireturn, 1) := by decide +kernel
theorem dX4_readPart_130 : decode cX4_readPart 130 = .ok (.aload_n 0, 1) := by decide +kernel
theorem dX4_readPart_131 : decode cX4_readPart 131 = .ok (.iload 5, 2) := by decide +kernel
theorem dX4_readPart_133 : decode cX4_readPart 133 = .ok (.invokevirtual 22, 3) := by decide +kernel
theorem dX4_readPart_136 : decode cX4_readPart 136 = .ok (.iconst 1, 1) := by decide +kernel
theorem dX4_readPart_137 : decode cX4_readPart 137 = .ok (.ireturn, 1) := by decide +kernel
theorem dX4_valueHere_0 : decode cX4_valueHere 0 = .ok (.aload_n 0, 1) := by decide +kernel
theorem dX4_valueHere_1 : decode cX4_valueHere 1 = .ok (.getfield 36, 3) := by decide +kernel
theorem dX4_valueHere_4 : decode cX4_valueHere 4 = .ok (.getstatic 101, 3) := by decide +kernel
theorem dX4_valueHere_7 : decode cX4_valueHere 7 = .ok (.if_acmp .ne 8, 3) := by decide +kernel
theorem dX4_valueHere_10 : decode cX4_valueHere 10 = .ok (.aload_n 0, 1) := by decide +kernel
theorem dX4_valueHere_11 : decode cX4_valueHere 11 = .ok (.getfield 104, 3) := by decide +kernel
theorem dX4_valueHere_14 : decode cX4_valueHere 14 = .ok (.ireturn, 1) := by decide +kernel
theorem dX4_valueHere_15 : decode cX4_valueHere 15 = .ok (.aload_n 0, 1) := by decide +kernel
theorem dX4_valueHere_16 : decode cX4_valueHere 16 = .ok (.getfield 36, 3) := by decide +kernel
theorem dX4_valueHere_19 : decode cX4_valueHere 19 = .ok (.getstatic 107, 3) := by decide +kernel
theorem dX4_valueHere_22 : decode cX4_valueHere 22 = .ok (.if_acmp .eq 6, 3) := by decide +kernel
theorem dX4_valueHere_25 : decode cX4_valueHere 25 = .ok (.bipush (-13), 2) := by decide +kernel
theorem dX4_valueHere_27 : decode cX4_valueHere 27 = .ok (.ireturn, 1) := by decide +kernel
theorem dX4_valueHere_28 : decode cX4_valueHere 28 = .ok (.aload_n 0, 1) := by decide +kernel
theorem dX4_valueHere_29 : decode cX4_valueHere 29 = .ok (.ldc 110, 2) := by decide +kernel
theorem dX4_valueHere_31 : decode cX4_valueHere 31 = .ok (.invokevirtual 112, 3) := by decide +kernel
theorem dX4_valueHere_34 : decode cX4_valueHere 34 = .ok (.ifCond .eq 5, 3) := by decide +kernel
theorem dX4_valueHere_37 : decode cX4_valueHere 37 = .ok (.iconst (-1), 1) := by decide +kernel
theorem dX4_valueHere_38 : decode cX4_valueHere 38 = .ok (.ireturn, 1) := by decide +kernel
theorem dX4_valueHere_39 : decode cX4_valueHere 39 = .ok (.aload_n 0, 1) := by decide +kernel
theorem dX4_valueHere_40 : decode cX4_valueHere 40 = .ok (.ldc 116, 2) := by decide +kernel
theorem dX4_valueHere_42 : decode cX4_valueHere 42 = .ok (.invokevirtual 112, 3) := by decide +kernel
theorem dX4_valueHere_45 : decode cX4_valueHere 45 = .ok (.ifCond .eq 6, 3) := by decide +kernel
theorem dX4_valueHere_48 : decode cX4_valueHere 48 = .ok (.bipush (-2), 2) := by decide +kernel
theorem dX4_valueHere_50 : decode cX4_valueHere 50 = .ok (.ireturn, 1) := by decide +kernel
theorem dX4_valueHere_51 : decode cX4_valueHere 51 = .ok (.aload_n 0, 1) := by decide +kernel
theorem dX4_valueHere_52 : decode cX4_valueHere 52 = .ok (.ldc 118, 2) := by decide +kernel
theorem dX4_valueHere_54 : decode cX4_valueHere 54 = .ok (.invokevirtual 112, 3) := by decide +kernel
theorem dX4_valueHere_57 : decode cX4_valueHere 57 = .ok (.ifCond .eq 6, 3) := by decide +kernel
theorem dX4_valueHere_60 : decode cX4_valueHere 60 = .ok (.bipush (-3), 2) := by decide +kernel
theorem dX4_valueHere_62 : decode cX4_valueHere 62 = .ok (.ireturn, 1) := by decide +kernel
theorem dX4_valueHere_63 : decode cX4_valueHere 63 = .ok (.aload_n 0, 1) := by decide +kernel
theorem dX4_valueHere_64 : decode cX4_valueHere 64 = .ok (.ldc 120, 2) := by decide +kernel
theorem dX4_valueHere_66 : decode cX4_valueHere 66 = .ok (.invokevirtual 112, 3) := by decide +kernel
theorem dX4_valueHere_69 : decode cX4_valueHere 69 = .ok (.ifCond .eq 8, 3) := by decide +kernel
theorem dX4_valueHere_72 : decode cX4_valueHere 72 = .ok (.bipush (-4), 2) := by decide +kernel
theorem dX4_valueHere_74 : decode cX4_valueHere 74 = .ok (.goto 5, 3) := by decide +kernel
theorem dX4_valueHere_77 : decode cX4_valueHere 77 = .ok (.bipush (-13), 2) := by decide +kernel
theorem dX4_valueHere_79 : decode cX4_valueHere 79 = .ok (.ireturn, 1) := by decide +kernel
theorem dX4_passes_0 : decode cX4_passes 0 = .ok (.iconst 0, 1) := by decide +kernel
theorem dX4_passes_1 : decode cX4_passes 1 = .ok (.istore 5, 2) := by decide +kernel
theorem dX4_passes_3 : decode cX4_passes 3 = .ok (.iconst 0, 1) := by decide +kernel
theorem dX4_passes_4 : decode cX4_passes 4 = .ok (.istore 6, 2) := by decide +kernel
theorem dX4_passes_6 : decode cX4_passes 6 = .ok (.iload 6, 2) := by decide +kernel
theorem dX4_passes_8 : decode cX4_passes 8 = .ok (.aload_n 0, 1) := by decide +kernel
theorem dX4_passes_9 : decode cX4_passes 9 = .ok (.getfield 18, 3) := by decide +kernel
theorem dX4_passes_12 : decode cX4_passes 12 = .ok (.if_icmp .ge 144, 3) := by decide +kernel
theorem dX4_passes_15 : decode cX4_passes 15 = .ok (.aload_n 0, 1) := by decide +kernel
theorem dX4_passes_16 : decode cX4_passes 16 = .ok (.getfield 9, 3) := by decide +kernel
theorem dX4_passes_19 : decode cX4_passes 19 = .ok (.iload 6, 2) := by decide +kernel
theorem dX4_passes_21 : decode cX4_passes 21 = .ok (.iaload, 1) := by decide +kernel
theorem dX4_passes_22 : decode cX4_passes 22 = .ok (.istore 7, 2) := by decide +kernel
theorem dX4_passes_24 : decode cX4_passes 24 = .ok (.iload 7, 2) := by decide +kernel
theorem dX4_passes_26 : decode cX4_passes 26 = .ok (.bipush (-5), 2) := by decide +kernel
theorem dX4_passes_28 : decode cX4_passes 28 = .ok (.if_icmp .le 35, 3) := by decide +kernel
theorem dX4_passes_31 : decode cX4_passes 31 = .ok (.iload 5, 2) := by decide +kernel
theorem dX4_passes_33 : decode cX4_passes 33 = .ok (.bipush 32, 2) := by decide +kernel
theorem dX4_passes_35 : decode cX4_passes 35 = .ok (.if_icmp .lt 5, 3) := by decide +kernel
theorem dX4_passes_38 : decode cX4_passes 38 = .ok (.iconst 0, 1) := by decide +kernel
theorem dX4_passes_39 : decode cX4_passes 39 = .ok (.ireturn, 1) := by decide +kernel
theorem dX4_passes_40 : decode cX4_passes 40 = .ok (.aload_n 0, 1) := by decide +kernel
theorem dX4_passes_41 : decode cX4_passes 41 = .ok (.getfield 15, 3) := by decide +kernel
theorem dX4_passes_44 : decode cX4_passes 44 = .ok (.iload 5, 2) := by decide +kernel
theorem dX4_passes_46 : decode cX4_passes 46 = .ok (.iload 7, 2) := by decide +kernel
theorem dX4_passes_48 : decode cX4_passes 48 = .ok (.iload_n 1, 1) := by decide +kernel
theorem dX4_passes_49 : decode cX4_passes 49 = .ok (.iload_n 2, 1) := by decide +kernel
theorem dX4_passes_50 : decode cX4_passes 50 = .ok (.iload_n 3, 1) := by decide +kernel
theorem dX4_passes_51 : decode cX4_passes 51 = .ok (.iload 4, 2) := by decide +kernel
theorem dX4_passes_53 : decode cX4_passes 53 = .ok (.invokestatic 122, 3) := by decide +kernel
theorem dX4_passes_56 : decode cX4_passes 56 = .ok (.iastore, 1) := by decide +kernel
theorem dX4_passes_57 : decode cX4_passes 57 = .ok (.iinc 5 1, 3) := by decide +kernel
theorem dX4_passes_60 : decode cX4_passes 60 = .ok (.goto 90, 3) := by decide +kernel
theorem dX4_passes_63 : decode cX4_passes 63 = .ok (.iload 7, 2) := by decide +kernel
theorem dX4_passes_65 : decode cX4_passes 65 = .ok (.bipush (-5), 2) := by decide +kernel
theorem dX4_passes_67 : decode cX4_passes 67 = .ok (.if_icmp .ne 37, 3) := by decide +kernel
theorem dX4_passes_70 : decode cX4_passes 70 = .ok (.iload 5, 2) := by decide +kernel
theorem dX4_passes_72 : decode cX4_passes 72 = .ok (.ifCond .le 32, 3) := by decide +kernel
theorem dX4_passes_75 : decode cX4_passes 75 = .ok (.aload_n 0, 1) := by decide +kernel
theorem dX4_passes_76 : decode cX4_passes 76 = .ok (.getfield 15, 3) := by decide +kernel
theorem dX4_passes_79 : decode cX4_passes 79 = .ok (.iload 5, 2) := by decide +kernel
theorem dX4_passes_81 : decode cX4_passes 81 = .ok (.iconst 1, 1) := by decide +kernel
theorem dX4_passes_82 : decode cX4_passes 82 = .ok (.isub, 1) := by decide +kernel
theorem dX4_passes_83 : decode cX4_passes 83 = .ok (.aload_n 0, 1) := by decide +kernel
theorem dX4_passes_84 : decode cX4_passes 84 = .ok (.getfield 15, 3) := by decide +kernel
theorem dX4_passes_87 : decode cX4_passes 87 = .ok (.iload 5, 2) := by decide +kernel
theorem dX4_passes_89 : decode cX4_passes 89 = .ok (.iconst 1, 1) := by decide +kernel
theorem dX4_passes_90 : decode cX4_passes 90 = .ok (.isub, 1) := by decide +kernel
theorem dX4_passes_91 : decode cX4_passes 91 = .ok (.iaload, 1) := by decide +kernel
theorem dX4_passes_92 : decode cX4_passes 92 = .ok (.ifCond .ne 7, 3) := by decide +kernel
theorem dX4_passes_95 : decode cX4_passes 95 = .ok (.iconst 1, 1) := by decide +kernel
theorem dX4_passes_96 : decode cX4_passes 96 = .ok (.goto 4, 3) := by decide +kernel
theorem dX4_passes_99 : decode cX4_passes 99 = .ok (.iconst 0, 1) := by decide +kernel
theorem dX4_passes_100 : decode cX4_passes 100 = .ok (.iastore, 1) := by decide +kernel
theorem dX4_passes_101 : decode cX4_passes 101 = .ok (.goto 49, 3) := by decide +kernel
theorem dX4_passes_104 : decode cX4_passes 104 = .ok (.iload 7, 2) := by decide +kernel
theorem dX4_passes_106 : decode cX4_passes 106 = .ok (.bipush (-5), 2) := by decide +kernel
theorem dX4_passes_108 : decode cX4_passes 108 = .ok (.if_icmp .ge 42, 3) := by decide +kernel
theorem dX4_passes_111 : decode cX4_passes 111 = .ok (.iload 5, 2) := by decide +kernel
theorem dX4_passes_113 : decode cX4_passes 113 = .ok (.iconst 1, 1) := by decide +kernel
theorem dX4_passes_114 : decode cX4_passes 114 = .ok (.if_icmp .le 36, 3) := by decide +kernel
theorem dX4_passes_117 : decode cX4_passes 117 = .ok (.iinc 5 (-1), 3) := by decide +kernel
theorem dX4_passes_120 : decode cX4_passes 120 = .ok (.aload_n 0, 1) := by decide +kernel
theorem dX4_passes_121 : decode cX4_passes 121 = .ok (.getfield 15, 3) := by decide +kernel
theorem dX4_passes_124 : decode cX4_passes 124 = .ok (.iload 5, 2) := by decide +kernel
theorem dX4_passes_126 : decode cX4_passes 126 = .ok (.iconst 1, 1) := by decide +kernel
theorem dX4_passes_127 : decode cX4_passes 127 = .ok (.isub, 1) := by decide +kernel
theorem dX4_passes_128 : decode cX4_passes 128 = .ok (.iload 7, 2) := by decide +kernel
theorem dX4_passes_130 : decode cX4_passes 130 = .ok (.aload_n 0, 1) := by decide +kernel
theorem dX4_passes_131 : decode cX4_passes 131 = .ok (.getfield 15, 3) := by decide +kernel
theorem dX4_passes_134 : decode cX4_passes 134 = .ok (.iload 5, 2) := by decide +kernel
theorem dX4_passes_136 : decode cX4_passes 136 = .ok (.iconst 1, 1) := by decide +kernel
theorem dX4_passes_137 : decode cX4_passes 137 = .ok (.isub, 1) := by decide +kernel
theorem dX4_passes_138 : decode cX4_passes 138 = .ok (.iaload, 1) := by decide +kernel
theorem dX4_passes_139 : decode cX4_passes 139 = .ok (.aload_n 0, 1) := by decide +kernel
theorem dX4_passes_140 : decode cX4_passes 140 = .ok (.getfield 15, 3) := by decide +kernel
theorem dX4_passes_143 : decode cX4_passes 143 = .ok (.iload 5, 2) := by decide +kernel
theorem dX4_passes_145 : decode cX4_passes 145 = .ok (.iaload, 1) := by decide +kernel
theorem dX4_passes_146 : decode cX4_passes 146 = .ok (.invokestatic 126, 3) := by decide +kernel
theorem dX4_passes_149 : decode cX4_passes 149 = .ok (.iastore, 1) := by decide +kernel
theorem dX4_passes_150 : decode cX4_passes 150 = .ok (.iinc 6 1, 3) := by decide +kernel
theorem dX4_passes_153 : decode cX4_passes 153 = .ok (.goto (-147), 3) := by decide +kernel
theorem dX4_passes_156 : decode cX4_passes 156 = .ok (.iload 5, 2) := by decide +kernel
theorem dX4_passes_158 : decode cX4_passes 158 = .ok (.ifCond .le 19, 3) := by decide +kernel
theorem dX4_passes_161 : decode cX4_passes 161 = .ok (.aload_n 0, 1) := by decide +kernel
theorem dX4_passes_162 : decode cX4_passes 162 = .ok (.getfield 15, 3) := by decide +kernel
theorem dX4_passes_165 : decode cX4_passes 165 = .ok (.iload 5, 2) := by decide +kernel
theorem dX4_passes_167 : decode cX4_passes 167 = .ok (.iconst 1, 1) := by decide +kernel
theorem dX4_passes_168 : decode cX4_passes 168 = .ok (.isub, 1) := by decide +kernel
theorem dX4_passes_169 : decode cX4_passes 169 = .ok (.iaload, 1) := by decide +kernel
theorem dX4_passes_170 : decode cX4_passes 170 = .ok (.ifCond .eq 7, 3) := by decide +kernel
theorem dX4_passes_173 : decode cX4_passes 173 = .ok (.iconst 1, 1) := by decide +kernel
theorem dX4_passes_174 : decode cX4_passes 174 = .ok (.goto 4, 3) := by decide +kernel
theorem dX4_passes_177 : decode cX4_passes 177 = .ok (.iconst 0, 1) := by decide +kernel
theorem dX4_passes_178 : decode cX4_passes 178 = .ok (.ireturn, 1) := by decide +kernel
theorem dX4_valueOf_0 : decode cX4_valueOf 0 = .ok (.iload_n 0, 1) := by decide +kernel
theorem dX4_valueOf_1 : decode cX4_valueOf 1 = .ok (.tableswitch 40 (-4) (-1) #[37, 35, 33, 31], 31) := by decide +kernel
theorem dX4_valueOf_32 : decode cX4_valueOf 32 = .ok (.iload_n 1, 1) := by decide +kernel
theorem dX4_valueOf_33 : decode cX4_valueOf 33 = .ok (.ireturn, 1) := by decide +kernel
theorem dX4_valueOf_34 : decode cX4_valueOf 34 = .ok (.iload_n 2, 1) := by decide +kernel
theorem dX4_valueOf_35 : decode cX4_valueOf 35 = .ok (.ireturn, 1) := by decide +kernel
theorem dX4_valueOf_36 : decode cX4_valueOf 36 = .ok (.iload_n 3, 1) := by decide +kernel
theorem dX4_valueOf_37 : decode cX4_valueOf 37 = .ok (.ireturn, 1) := by decide +kernel
theorem dX4_valueOf_38 : decode cX4_valueOf 38 = .ok (.iload 4, 2) := by decide +kernel
theorem dX4_valueOf_40 : decode cX4_valueOf 40 = .ok (.ireturn, 1) := by decide +kernel
theorem dX4_valueOf_41 : decode cX4_valueOf 41 = .ok (.iload_n 0, 1) := by decide +kernel
theorem dX4_valueOf_42 : decode cX4_valueOf 42 = .ok (.ireturn, 1) := by decide +kernel
theorem dX4_join_0 : decode cX4_join 0 = .ok (.iload_n 0, 1) := by decide +kernel
theorem dX4_join_1 : decode cX4_join 1 = .ok (.tableswitch 97 (-11) (-6) #[93, 89, 78, 67, 53, 39], 39) := by decide +kernel
theorem dX4_join_40 : decode cX4_join 40 = .ok (.iload_n 1, 1) := by decide +kernel
theorem dX4_join_41 : decode cX4_join 41 = .ok (.ifCond .eq 11, 3) := by decide +kernel
theorem dX4_join_44 : decode cX4_join 44 = .ok (.iload_n 2, 1) := by decide +kernel
theorem dX4_join_45 : decode cX4_join 45 = .ok (.ifCond .eq 7, 3) := by decide +kernel
theorem dX4_join_48 : decode cX4_join 48 = .ok (.iconst 1, 1) := by decide +kernel
theorem dX4_join_49 : decode cX4_join 49 = .ok (.goto 4, 3) := by decide +kernel
theorem dX4_join_52 : decode cX4_join 52 = .ok (.iconst 0, 1) := by decide +kernel
theorem dX4_join_53 : decode cX4_join 53 = .ok (.ireturn, 1) := by decide +kernel
theorem dX4_join_54 : decode cX4_join 54 = .ok (.iload_n 1, 1) := by decide +kernel
theorem dX4_join_55 : decode cX4_join 55 = .ok (.ifCond .ne 7, 3) := by decide +kernel
theorem dX4_join_58 : decode cX4_join 58 = .ok (.iload_n 2, 1) := by decide +kernel
theorem dX4_join_59 : decode cX4_join 59 = .ok (.ifCond .eq 7, 3) := by decide +kernel
theorem dX4_join_62 : decode cX4_join 62 = .ok (.iconst 1, 1) := by decide +kernel
theorem dX4_join_63 : decode cX4_join 63 = .ok (.goto 4, 3) := by decide +kernel
theorem dX4_join_66 : decode cX4_join 66 = .ok (.iconst 0, 1) := by decide +kernel
theorem dX4_join_67 : decode cX4_join 67 = .ok (.ireturn, 1) := by decide +kernel
theorem dX4_join_68 : decode cX4_join 68 = .ok (.iload_n 1, 1) := by decide +kernel
theorem dX4_join_69 : decode cX4_join 69 = .ok (.iload_n 2, 1) := by decide +kernel
theorem dX4_join_70 : decode cX4_join 70 = .ok (.if_icmp .ge 7, 3) := by decide +kernel
theorem dX4_join_73 : decode cX4_join 73 = .ok (.iconst 1, 1) := by decide +kernel
theorem dX4_join_74 : decode cX4_join 74 = .ok (.goto 4, 3) := by decide +kernel
theorem dX4_join_77 : decode cX4_join 77 = .ok (.iconst 0, 1) := by decide +kernel
theorem dX4_join_78 : decode cX4_join 78 = .ok (.ireturn, 1) := by decide +kernel
theorem dX4_join_79 : decode cX4_join 79 = .ok (.iload_n 1, 1) := by decide +kernel
theorem dX4_join_80 : decode cX4_join 80 = .ok (.iload_n 2, 1) := by decide +kernel
theorem dX4_join_81 : decode cX4_join 81 = .ok (.if_icmp .ne 7, 3) := by decide +kernel
theorem dX4_join_84 : decode cX4_join 84 = .ok (.iconst 1, 1) := by decide +kernel
theorem dX4_join_85 : decode cX4_join 85 = .ok (.goto 4, 3) := by decide +kernel
theorem dX4_join_88 : decode cX4_join 88 = .ok (.iconst 0, 1) := by decide +kernel
theorem dX4_join_89 : decode cX4_join 89 = .ok (.ireturn, 1) := by decide +kernel
theorem dX4_join_90 : decode cX4_join 90 = .ok (.iload_n 1, 1) := by decide +kernel
theorem dX4_join_91 : decode cX4_join 91 = .ok (.iload_n 2, 1) := by decide +kernel
theorem dX4_join_92 : decode cX4_join 92 = .ok (.iadd, 1) := by decide +kernel
theorem dX4_join_93 : decode cX4_join 93 = .ok (.ireturn, 1) := by decide +kernel
theorem dX4_join_94 : decode cX4_join 94 = .ok (.iload_n 1, 1) := by decide +kernel
theorem dX4_join_95 : decode cX4_join 95 = .ok (.iload_n 2, 1) := by decide +kernel
theorem dX4_join_96 : decode cX4_join 96 = .ok (.isub, 1) := by decide +kernel
theorem dX4_join_97 : decode cX4_join 97 = .ok (.ireturn, 1) := by decide +kernel
theorem dX4_join_98 : decode cX4_join 98 = .ok (.iload_n 1, 1) := by decide +kernel
theorem dX4_join_99 : decode cX4_join 99 = .ok (.iload_n 2, 1) := by decide +kernel
theorem dX4_join_100 : decode cX4_join 100 = .ok (.imul, 1) := by decide +kernel
theorem dX4_join_101 : decode cX4_join 101 = .ok (.ireturn, 1) := by decide +kernel
theorem dX5_lay_0 : decode cX5_lay 0 = .ok (.aload_n 0, 1) := by decide +kernel
theorem dX5_lay_1 : decode cX5_lay 1 = .ok (.getfield 10, 3) := by decide +kernel
theorem dX5_lay_4 : decode cX5_lay 4 = .ok (.aload_n 1, 1) := by decide +kernel
theorem dX5_lay_5 : decode cX5_lay 5 = .ok (.invokevirtual 34, 3) := by decide +kernel
theorem dX5_lay_8 : decode cX5_lay 8 = .ok (.aload_n 0, 1) := by decide +kernel
theorem dX5_lay_9 : decode cX5_lay 9 = .ok (.getfield 19, 3) := by decide +kernel
theorem dX5_lay_12 : decode cX5_lay 12 = .ok (.aload_n 2, 1) := by decide +kernel
theorem dX5_lay_13 : decode cX5_lay 13 = .ok (.invokevirtual 38, 3) := by decide +kernel
theorem dX5_lay_16 : decode cX5_lay 16 = .ok (.aload_n 0, 1) := by decide +kernel
theorem dX5_lay_17 : decode cX5_lay 17 = .ok (.getfield 26, 3) := by decide +kernel
theorem dX5_lay_20 : decode cX5_lay 20 = .ok (.aload_n 3, 1) := by decide +kernel
theorem dX5_lay_21 : decode cX5_lay 21 = .ok (.invokevirtual 41, 3) := by decide +kernel
theorem dX5_lay_24 : decode cX5_lay 24 = .ok (.aload_n 0, 1) := by decide +kernel
theorem dX5_lay_25 : decode cX5_lay 25 = .ok (.iconst 1, 1) := by decide +kernel
theorem dX5_lay_26 : decode cX5_lay 26 = .ok (.putfield 30, 3) := by decide +kernel
theorem dX5_lay_29 : decode cX5_lay 29 = .ok (.return_, 1) := by decide +kernel
theorem dX6_clear_0 : decode cX6_clear 0 = .ok (.aload_n 0, 1) := by decide +kernel
theorem dX6_clear_1 : decode cX6_clear 1 = .ok (.ldc 9, 2) := by decide +kernel
theorem dX6_clear_3 : decode cX6_clear 3 = .ok (.putfield 10, 3) := by decide +kernel
theorem dX6_clear_6 : decode cX6_clear 6 = .ok (.aload_n 0, 1) := by decide +kernel
theorem dX6_clear_7 : decode cX6_clear 7 = .ok (.iconst 0, 1) := by decide +kernel
theorem dX6_clear_8 : decode cX6_clear 8 = .ok (.putfield 16, 3) := by decide +kernel
theorem dX6_clear_11 : decode cX6_clear 11 = .ok (.return_, 1) := by decide +kernel
theorem dX6_copy_0 : decode cX6_copy 0 = .ok (.aload_n 0, 1) := by decide +kernel
theorem dX6_copy_1 : decode cX6_copy 1 = .ok (.aload_n 1, 1) := by decide +kernel
theorem dX6_copy_2 : decode cX6_copy 2 = .ok (.getfield 10, 3) := by decide +kernel
theorem dX6_copy_5 : decode cX6_copy 5 = .ok (.putfield 10, 3) := by decide +kernel
theorem dX6_copy_8 : decode cX6_copy 8 = .ok (.aload_n 0, 1) := by decide +kernel
theorem dX6_copy_9 : decode cX6_copy 9 = .ok (.aload_n 1, 1) := by decide +kernel
theorem dX6_copy_10 : decode cX6_copy 10 = .ok (.getfield 16, 3) := by decide +kernel
theorem dX6_copy_13 : decode cX6_copy 13 = .ok (.putfield 16, 3) := by decide +kernel
theorem dX6_copy_16 : decode cX6_copy 16 = .ok (.return_, 1) := by decide +kernel
theorem dX6_add_0 : decode cX6_add 0 = .ok (.aload_n 0, 1) := by decide +kernel
theorem dX6_add_1 : decode cX6_add 1 = .ok (.dup, 1) := by decide +kernel
theorem dX6_add_2 : decode cX6_add 2 = .ok (.getfield 10, 3) := by decide +kernel
theorem dX6_add_5 : decode cX6_add 5 = .ok (.iload_n 1, 1) := by decide +kernel
theorem dX6_add_6 : decode cX6_add 6 = .ok (.iand, 1) := by decide +kernel
theorem dX6_add_7 : decode cX6_add 7 = .ok (.putfield 10, 3) := by decide +kernel
theorem dX6_add_10 : decode cX6_add 10 = .ok (.aload_n 0, 1) := by decide +kernel
theorem dX6_add_11 : decode cX6_add 11 = .ok (.dup, 1) := by decide +kernel
theorem dX6_add_12 : decode cX6_add 12 = .ok (.getfield 16, 3) := by decide +kernel
theorem dX6_add_15 : decode cX6_add 15 = .ok (.iconst 1, 1) := by decide +kernel
theorem dX6_add_16 : decode cX6_add 16 = .ok (.iadd, 1) := by decide +kernel
theorem dX6_add_17 : decode cX6_add 17 = .ok (.putfield 16, 3) := by decide +kernel
theorem dX6_add_20 : decode cX6_add 20 = .ok (.return_, 1) := by decide +kernel
theorem dX8_begin_0 : decode cX8_begin 0 = .ok (.aload_n 0, 1) := by decide +kernel
theorem dX8_begin_1 : decode cX8_begin 1 = .ok (.iconst 0, 1) := by decide +kernel
theorem dX8_begin_2 : decode cX8_begin 2 = .ok (.putfield 27, 3) := by decide +kernel
theorem dX8_begin_5 : decode cX8_begin 5 = .ok (.iconst 0, 1) := by decide +kernel
theorem dX8_begin_6 : decode cX8_begin 6 = .ok (.istore_n 2, 1) := by decide +kernel
theorem dX8_begin_7 : decode cX8_begin 7 = .ok (.iload_n 2, 1) := by decide +kernel
theorem dX8_begin_8 : decode cX8_begin 8 = .ok (.aload_n 1, 1) := by decide +kernel
theorem dX8_begin_9 : decode cX8_begin 9 = .ok (.getfield 31, 3) := by decide +kernel
theorem dX8_begin_12 : decode cX8_begin 12 = .ok (.if_icmp .ge 66, 3) := by decide +kernel
theorem dX8_begin_15 : decode cX8_begin 15 = .ok (.aload_n 0, 1) := by decide +kernel
theorem dX8_begin_16 : decode cX8_begin 16 = .ok (.getfield 9, 3) := by decide +kernel
theorem dX8_begin_19 : decode cX8_begin 19 = .ok (.iload_n 2, 1) := by decide +kernel
theorem dX8_begin_20 : decode cX8_begin 20 = .ok (.aload_n 1, 1) := by decide +kernel
theorem dX8_begin_21 : decode cX8_begin 21 = .ok (.getfield 36, 3) := by decide +kernel
theorem dX8_begin_24 : decode cX8_begin 24 = .ok (.iload_n 2, 1) := by decide +kernel
theorem dX8_begin_25 : decode cX8_begin 25 = .ok (.iaload, 1) := by decide +kernel
theorem dX8_begin_26 : decode cX8_begin 26 = .ok (.iastore, 1) := by decide +kernel
theorem dX8_begin_27 : decode cX8_begin 27 = .ok (.aload_n 0, 1) := by decide +kernel
theorem dX8_begin_28 : decode cX8_begin 28 = .ok (.getfield 15, 3) := by decide +kernel
theorem dX8_begin_31 : decode cX8_begin 31 = .ok (.iload_n 2, 1) := by decide +kernel
theorem dX8_begin_32 : decode cX8_begin 32 = .ok (.aload_n 1, 1) := by decide +kernel
theorem dX8_begin_33 : decode cX8_begin 33 = .ok (.getfield 39, 3) := by decide +kernel
theorem dX8_begin_36 : decode cX8_begin 36 = .ok (.iload_n 2, 1) := by decide +kernel
theorem dX8_begin_37 : decode cX8_begin 37 = .ok (.iaload, 1) := by decide +kernel
theorem dX8_begin_38 : decode cX8_begin 38 = .ok (.iastore, 1) := by decide +kernel
theorem dX8_begin_39 : decode cX8_begin 39 = .ok (.aload_n 0, 1) := by decide +kernel
theorem dX8_begin_40 : decode cX8_begin 40 = .ok (.getfield 18, 3) := by decide +kernel
theorem dX8_begin_43 : decode cX8_begin 43 = .ok (.iload_n 2, 1) := by decide +kernel
theorem dX8_begin_44 : decode cX8_begin 44 = .ok (.iconst 0, 1) := by decide +kernel
theorem dX8_begin_45 : decode cX8_begin 45 = .ok (.iastore, 1) := by decide +kernel
theorem dX8_begin_46 : decode cX8_begin 46 = .ok (.aload_n 0, 1) := by decide +kernel
theorem dX8_begin_47 : decode cX8_begin 47 = .ok (.getfield 21, 3) := by decide +kernel
theorem dX8_begin_50 : decode cX8_begin 50 = .ok (.iload_n 2, 1) := by decide +kernel
theorem dX8_begin_51 : decode cX8_begin 51 = .ok (.aload_n 1, 1) := by decide +kernel
theorem dX8_begin_52 : decode cX8_begin 52 = .ok (.getfield 40, 3) := by decide +kernel
theorem dX8_begin_55 : decode cX8_begin 55 = .ok (.iload_n 2, 1) := by decide +kernel
theorem dX8_begin_56 : decode cX8_begin 56 = .ok (.iaload, 1) := by decide +kernel
theorem dX8_begin_57 : decode cX8_begin 57 = .ok (.iastore, 1) := by decide +kernel
theorem dX8_begin_58 : decode cX8_begin 58 = .ok (.aload_n 0, 1) := by decide +kernel
theorem dX8_begin_59 : decode cX8_begin 59 = .ok (.getfield 24, 3) := by decide +kernel
theorem dX8_begin_62 : decode cX8_begin 62 = .ok (.iload_n 2, 1) := by decide +kernel
theorem dX8_begin_63 : decode cX8_begin 63 = .ok (.iconst 1, 1) := by decide +kernel
theorem dX8_begin_64 : decode cX8_begin 64 = .ok (.aload_n 1, 1) := by decide +kernel
theorem dX8_begin_65 : decode cX8_begin 65 = .ok (.getfield 36, 3) := by decide +kernel
theorem dX8_begin_68 : decode cX8_begin 68 = .ok (.iload_n 2, 1) := by decide +kernel
theorem dX8_begin_69 : decode cX8_begin 69 = .ok (.iaload, 1) := by decide +kernel
theorem dX8_begin_70 : decode cX8_begin 70 = .ok (.ishl, 1) := by decide +kernel
theorem dX8_begin_71 : decode cX8_begin 71 = .ok (.iastore, 1) := by decide +kernel
theorem dX8_begin_72 : decode cX8_begin 72 = .ok (.iinc 2 1, 3) := by decide +kernel
theorem dX8_begin_75 : decode cX8_begin 75 = .ok (.goto (-68), 3) := by decide +kernel
theorem dX8_begin_78 : decode cX8_begin 78 = .ok (.return_, 1) := by decide +kernel
theorem dX8_copy_0 : decode cX8_copy 0 = .ok (.aload_n 0, 1) := by decide +kernel
theorem dX8_copy_1 : decode cX8_copy 1 = .ok (.aload_n 1, 1) := by decide +kernel
theorem dX8_copy_2 : decode cX8_copy 2 = .ok (.getfield 27, 3) := by decide +kernel
theorem dX8_copy_5 : decode cX8_copy 5 = .ok (.putfield 27, 3) := by decide +kernel
theorem dX8_copy_8 : decode cX8_copy 8 = .ok (.aload_n 1, 1) := by decide +kernel
theorem dX8_copy_9 : decode cX8_copy 9 = .ok (.getfield 9, 3) := by decide +kernel
theorem dX8_copy_12 : decode cX8_copy 12 = .ok (.iconst 0, 1) := by decide +kernel
theorem dX8_copy_13 : decode cX8_copy 13 = .ok (.aload_n 0, 1) := by decide +kernel
theorem dX8_copy_14 : decode cX8_copy 14 = .ok (.getfield 9, 3) := by decide +kernel
theorem dX8_copy_17 : decode cX8_copy 17 = .ok (.iconst 0, 1) := by decide +kernel
theorem dX8_copy_18 : decode cX8_copy 18 = .ok (.bipush 6, 2) := by decide +kernel
theorem dX8_copy_20 : decode cX8_copy 20 = .ok (.invokestatic 41, 3) := by decide +kernel
theorem dX8_copy_23 : decode cX8_copy 23 = .ok (.aload_n 1, 1) := by decide +kernel
theorem dX8_copy_24 : decode cX8_copy 24 = .ok (.getfield 15, 3) := by decide +kernel
theorem dX8_copy_27 : decode cX8_copy 27 = .ok (.iconst 0, 1) := by decide +kernel
theorem dX8_copy_28 : decode cX8_copy 28 = .ok (.aload_n 0, 1) := by decide +kernel
theorem dX8_copy_29 : decode cX8_copy 29 = .ok (.getfield 15, 3) := by decide +kernel
theorem dX8_copy_32 : decode cX8_copy 32 = .ok (.iconst 0, 1) := by decide +kernel
theorem dX8_copy_33 : decode cX8_copy 33 = .ok (.bipush 6, 2) := by decide +kernel
theorem dX8_copy_35 : decode cX8_copy 35 = .ok (.invokestatic 41, 3) := by decide +kernel
theorem dX8_copy_38 : decode cX8_copy 38 = .ok (.aload_n 1, 1) := by decide +kernel
theorem dX8_copy_39 : decode cX8_copy 39 = .ok (.getfield 18, 3) := by decide +kernel
theorem dX8_copy_42 : decode cX8_copy 42 = .ok (.iconst 0, 1) := by decide +kernel
theorem dX8_copy_43 : decode cX8_copy 43 = .ok (.aload_n 0, 1) := by decide +kernel
theorem dX8_copy_44 : decode cX8_copy 44 = .ok (.getfield 18, 3) := by decide +kernel
theorem dX8_copy_47 : decode cX8_copy 47 = .ok (.iconst 0, 1) := by decide +kernel
theorem dX8_copy_48 : decode cX8_copy 48 = .ok (.bipush 6, 2) := by decide +kernel
theorem dX8_copy_50 : decode cX8_copy 50 = .ok (.invokestatic 41, 3) := by decide +kernel
theorem dX8_copy_53 : decode cX8_copy 53 = .ok (.aload_n 1, 1) := by decide +kernel
theorem dX8_copy_54 : decode cX8_copy 54 = .ok (.getfield 21, 3) := by decide +kernel
theorem dX8_copy_57 : decode cX8_copy 57 = .ok (.iconst 0, 1) := by decide +kernel
theorem dX8_copy_58 : decode cX8_copy 58 = .ok (.aload_n 0, 1) := by decide +kernel
theorem dX8_copy_59 : decode cX8_copy 59 = .ok (.getfield 21, 3) := by decide +kernel
theorem dX8_copy_62 : decode cX8_copy 62 = .ok (.iconst 0, 1) := by decide +kernel
theorem dX8_copy_63 : decode cX8_copy 63 = .ok (.bipush 6, 2) := by decide +kernel
theorem dX8_copy_65 : decode cX8_copy 65 = .ok (.invokestatic 41, 3) := by decide +kernel
theorem dX8_copy_68 : decode cX8_copy 68 = .ok (.aload_n 1, 1) := by decide +kernel
theorem dX8_copy_69 : decode cX8_copy 69 = .ok (.getfield 24, 3) := by decide +kernel
theorem dX8_copy_72 : decode cX8_copy 72 = .ok (.iconst 0, 1) := by decide +kernel
theorem dX8_copy_73 : decode cX8_copy 73 = .ok (.aload_n 0, 1) := by decide +kernel
theorem dX8_copy_74 : decode cX8_copy 74 = .ok (.getfield 24, 3) := by decide +kernel
theorem dX8_copy_77 : decode cX8_copy 77 = .ok (.iconst 0, 1) := by decide +kernel
theorem dX8_copy_78 : decode cX8_copy 78 = .ok (.bipush 6, 2) := by decide +kernel
theorem dX8_copy_80 : decode cX8_copy 80 = .ok (.invokestatic 41, 3) := by decide +kernel
theorem dX8_copy_83 : decode cX8_copy 83 = .ok (.return_, 1) := by decide +kernel
theorem dX8_arrive_0 : decode cX8_arrive 0 = .ok (.aload_n 0, 1) := by decide +kernel
theorem dX8_arrive_1 : decode cX8_arrive 1 = .ok (.getfield 9, 3) := by decide +kernel
theorem dX8_arrive_4 : decode cX8_arrive 4 = .ok (.iload_n 1, 1) := by decide +kernel
theorem dX8_arrive_5 : decode cX8_arrive 5 = .ok (.iload_n 2, 1) := by decide +kernel
theorem dX8_arrive_6 : decode cX8_arrive 6 = .ok (.iastore, 1) := by decide +kernel
theorem dX8_arrive_7 : decode cX8_arrive 7 = .ok (.aload_n 0, 1) := by decide +kernel
theorem dX8_arrive_8 : decode cX8_arrive 8 = .ok (.getfield 24, 3) := by decide +kernel
theorem dX8_arrive_11 : decode cX8_arrive 11 = .ok (.iload_n 1, 1) := by decide +kernel
theorem dX8_arrive_12 : decode cX8_arrive 12 = .ok (.dup2, 1) := by decide +kernel
theorem dX8_arrive_13 : decode cX8_arrive 13 = .ok (.iaload, 1) := by decide +kernel
theorem dX8_arrive_14 : decode cX8_arrive 14 = .ok (.iconst 1, 1) := by decide +kernel
theorem dX8_arrive_15 : decode cX8_arrive 15 = .ok (.iload_n 2, 1) := by decide +kernel
theorem dX8_arrive_16 : decode cX8_arrive 16 = .ok (.ishl, 1) := by decide +kernel
theorem dX8_arrive_17 : decode cX8_arrive 17 = .ok (.ior, 1) := by decide +kernel
theorem dX8_arrive_18 : decode cX8_arrive 18 = .ok (.iastore, 1) := by decide +kernel
theorem dX8_arrive_19 : decode cX8_arrive 19 = .ok (.return_, 1) := by decide +kernel
theorem dX8_loseBeard_0 : decode cX8_loseBeard 0 = .ok (.aload_n 0, 1) := by decide +kernel
theorem dX8_loseBeard_1 : decode cX8_loseBeard 1 = .ok (.getfield 15, 3) := by decide +kernel
theorem dX8_loseBeard_4 : decode cX8_loseBeard 4 = .ok (.iload_n 1, 1) := by decide +kernel
theorem dX8_loseBeard_5 : decode cX8_loseBeard 5 = .ok (.iconst 0, 1) := by decide +kernel
theorem dX8_loseBeard_6 : decode cX8_loseBeard 6 = .ok (.iastore, 1) := by decide +kernel
theorem dX8_loseBeard_7 : decode cX8_loseBeard 7 = .ok (.aload_n 0, 1) := by decide +kernel
theorem dX8_loseBeard_8 : decode cX8_loseBeard 8 = .ok (.getfield 18, 3) := by decide +kernel
theorem dX8_loseBeard_11 : decode cX8_loseBeard 11 = .ok (.iload_n 1, 1) := by decide +kernel
theorem dX8_loseBeard_12 : decode cX8_loseBeard 12 = .ok (.iconst 0, 1) := by decide +kernel
theorem dX8_loseBeard_13 : decode cX8_loseBeard 13 = .ok (.iastore, 1) := by decide +kernel
theorem dX8_loseBeard_14 : decode cX8_loseBeard 14 = .ok (.return_, 1) := by decide +kernel
theorem dX8_peopled_0 : decode cX8_peopled 0 = .ok (.iconst 0, 1) := by decide +kernel
theorem dX8_peopled_1 : decode cX8_peopled 1 = .ok (.istore_n 2, 1) := by decide +kernel
theorem dX8_peopled_2 : decode cX8_peopled 2 = .ok (.iconst 0, 1) := by decide +kernel
theorem dX8_peopled_3 : decode cX8_peopled 3 = .ok (.istore_n 3, 1) := by decide +kernel
theorem dX8_peopled_4 : decode cX8_peopled 4 = .ok (.iload_n 3, 1) := by decide +kernel
theorem dX8_peopled_5 : decode cX8_peopled 5 = .ok (.iload_n 1, 1) := by decide +kernel
theorem dX8_peopled_6 : decode cX8_peopled 6 = .ok (.if_icmp .ge 20, 3) := by decide +kernel
theorem dX8_peopled_9 : decode cX8_peopled 9 = .ok (.iload_n 2, 1) := by decide +kernel
theorem dX8_peopled_10 : decode cX8_peopled 10 = .ok (.iconst 1, 1) := by decide +kernel
theorem dX8_peopled_11 : decode cX8_peopled 11 = .ok (.aload_n 0, 1) := by decide +kernel
theorem dX8_peopled_12 : decode cX8_peopled 12 = .ok (.getfield 9, 3) := by decide +kernel
theorem dX8_peopled_15 : decode cX8_peopled 15 = .ok (.iload_n 3, 1) := by decide +kernel
theorem dX8_peopled_16 : decode cX8_peopled 16 = .ok (.iaload, 1) := by decide +kernel
theorem dX8_peopled_17 : decode cX8_peopled 17 = .ok (.ishl, 1) := by decide +kernel
theorem dX8_peopled_18 : decode cX8_peopled 18 = .ok (.ior, 1) := by decide +kernel
theorem dX8_peopled_19 : decode cX8_peopled 19 = .ok (.istore_n 2, 1) := by decide +kernel
theorem dX8_peopled_20 : decode cX8_peopled 20 = .ok (.iinc 3 1, 3) := by decide +kernel
theorem dX8_peopled_23 : decode cX8_peopled 23 = .ok (.goto (-19), 3) := by decide +kernel
theorem dX8_peopled_26 : decode cX8_peopled 26 = .ok (.iload_n 2, 1) := by decide +kernel
theorem dX8_peopled_27 : decode cX8_peopled 27 = .ok (.ireturn, 1) := by decide +kernel
theorem dX9_put_0 : decode cX9_put 0 = .ok (.bipush 56, 2) := by decide +kernel
theorem dX9_put_2 : decode cX9_put 2 = .ok (.istore_n 3, 1) := by decide +kernel
theorem dX9_put_3 : decode cX9_put 3 = .ok (.iload_n 3, 1) := by decide +kernel
theorem dX9_put_4 : decode cX9_put 4 = .ok (.ifCond .lt 84, 3) := by decide +kernel
theorem dX9_put_7 : decode cX9_put 7 = .ok (.lload_n 1, 1) := by decide +kernel
theorem dX9_put_8 : decode cX9_put 8 = .ok (.iload_n 3, 1) := by decide +kernel
theorem dX9_put_9 : decode cX9_put 9 = .ok (.lushr, 1) := by decide +kernel
theorem dX9_put_10 : decode cX9_put 10 = .ok (.ldc2_w 44, 3) := by decide +kernel
theorem dX9_put_13 : decode cX9_put 13 = .ok (.land, 1) := by decide +kernel
theorem dX9_put_14 : decode cX9_put 14 = .ok (.l2i, 1) := by decide +kernel
theorem dX9_put_15 : decode cX9_put 15 = .ok (.istore 4, 2) := by decide +kernel
theorem dX9_put_17 : decode cX9_put 17 = .ok (.iload 4, 2) := by decide +kernel
theorem dX9_put_19 : decode cX9_put 19 = .ok (.bipush 10, 2) := by decide +kernel
theorem dX9_put_21 : decode cX9_put 21 = .ok (.if_icmp .eq 17, 3) := by decide +kernel
theorem dX9_put_24 : decode cX9_put 24 = .ok (.iload 4, 2) := by decide +kernel
theorem dX9_put_26 : decode cX9_put 26 = .ok (.bipush 32, 2) := by decide +kernel
theorem dX9_put_28 : decode cX9_put 28 = .ok (.if_icmp .lt 14, 3) := by decide +kernel
theorem dX9_put_31 : decode cX9_put 31 = .ok (.iload 4, 2) := by decide +kernel
theorem dX9_put_33 : decode cX9_put 33 = .ok (.bipush 126, 2) := by decide +kernel
theorem dX9_put_35 : decode cX9_put 35 = .ok (.if_icmp .gt 7, 3) := by decide +kernel
theorem dX9_put_38 : decode cX9_put 38 = .ok (.iconst 1, 1) := by decide +kernel
theorem dX9_put_39 : decode cX9_put 39 = .ok (.goto 4, 3) := by decide +kernel
theorem dX9_put_42 : decode cX9_put 42 = .ok (.iconst 0, 1) := by decide +kernel
theorem dX9_put_43 : decode cX9_put 43 = .ok (.istore 5, 2) := by decide +kernel
theorem dX9_put_45 : decode cX9_put 45 = .ok (.iload 5, 2) := by decide +kernel
theorem dX9_put_47 : decode cX9_put 47 = .ok (.ifCond .eq 35, 3) := by decide +kernel
theorem dX9_put_50 : decode cX9_put 50 = .ok (.aload_n 0, 1) := by decide +kernel
theorem dX9_put_51 : decode cX9_put 51 = .ok (.getfield 15, 3) := by decide +kernel
theorem dX9_put_54 : decode cX9_put 54 = .ok (.sipush 1000, 3) := by decide +kernel
theorem dX9_put_57 : decode cX9_put 57 = .ok (.if_icmp .ge 25, 3) := by decide +kernel
theorem dX9_put_60 : decode cX9_put 60 = .ok (.aload_n 0, 1) := by decide +kernel
theorem dX9_put_61 : decode cX9_put 61 = .ok (.getfield 9, 3) := by decide +kernel
theorem dX9_put_64 : decode cX9_put 64 = .ok (.aload_n 0, 1) := by decide +kernel
theorem dX9_put_65 : decode cX9_put 65 = .ok (.getfield 15, 3) := by decide +kernel
theorem dX9_put_68 : decode cX9_put 68 = .ok (.iload 4, 2) := by decide +kernel
theorem dX9_put_70 : decode cX9_put 70 = .ok (.i2c, 1) := by decide +kernel
theorem dX9_put_71 : decode cX9_put 71 = .ok (.castore, 1) := by decide +kernel
theorem dX9_put_72 : decode cX9_put 72 = .ok (.aload_n 0, 1) := by decide +kernel
theorem dX9_put_73 : decode cX9_put 73 = .ok (.dup, 1) := by decide +kernel
theorem dX9_put_74 : decode cX9_put 74 = .ok (.getfield 15, 3) := by decide +kernel
theorem dX9_put_77 : decode cX9_put 77 = .ok (.iconst 1, 1) := by decide +kernel
theorem dX9_put_78 : decode cX9_put 78 = .ok (.iadd, 1) := by decide +kernel
theorem dX9_put_79 : decode cX9_put 79 = .ok (.putfield 15, 3) := by decide +kernel
theorem dX9_put_82 : decode cX9_put 82 = .ok (.iinc 3 (-8), 3) := by decide +kernel
theorem dX9_put_85 : decode cX9_put 85 = .ok (.goto (-82), 3) := by decide +kernel
theorem dX9_put_88 : decode cX9_put 88 = .ok (.return_, 1) := by decide +kernel
theorem dX9_begin_0 : decode cX9_begin 0 = .ok (.aload_n 0, 1) := by decide +kernel
theorem dX9_begin_1 : decode cX9_begin 1 = .ok (.iconst 0, 1) := by decide +kernel
theorem dX9_begin_2 : decode cX9_begin 2 = .ok (.putfield 22, 3) := by decide +kernel
theorem dX9_begin_5 : decode cX9_begin 5 = .ok (.aload_n 0, 1) := by decide +kernel
theorem dX9_begin_6 : decode cX9_begin 6 = .ok (.iconst 0, 1) := by decide +kernel
theorem dX9_begin_7 : decode cX9_begin 7 = .ok (.putfield 41, 3) := by decide +kernel
theorem dX9_begin_10 : decode cX9_begin 10 = .ok (.aload_n 0, 1) := by decide +kernel
theorem dX9_begin_11 : decode cX9_begin 11 = .ok (.invokevirtual 46, 3) := by decide +kernel
theorem dX9_begin_14 : decode cX9_begin 14 = .ok (.return_, 1) := by decide +kernel
theorem dX9_step_0 : decode cX9_step 0 = .ok (.aload_n 0, 1) := by decide +kernel
theorem dX9_step_1 : decode cX9_step 1 = .ok (.getfield 22, 3) := by decide +kernel
theorem dX9_step_4 : decode cX9_step 4 = .ok (.aload_n 0, 1) := by decide +kernel
theorem dX9_step_5 : decode cX9_step 5 = .ok (.getfield 15, 3) := by decide +kernel
theorem dX9_step_8 : decode cX9_step 8 = .ok (.if_icmp .ge 44, 3) := by decide +kernel
theorem dX9_step_11 : decode cX9_step 11 = .ok (.aload_n 0, 1) := by decide +kernel
theorem dX9_step_12 : decode cX9_step 12 = .ok (.getfield 9, 3) := by decide +kernel
theorem dX9_step_15 : decode cX9_step 15 = .ok (.aload_n 0, 1) := by decide +kernel
theorem dX9_step_16 : decode cX9_step 16 = .ok (.getfield 22, 3) := by decide +kernel
theorem dX9_step_19 : decode cX9_step 19 = .ok (.caload, 1) := by decide +kernel
theorem dX9_step_20 : decode cX9_step 20 = .ok (.bipush 32, 2) := by decide +kernel
theorem dX9_step_22 : decode cX9_step 22 = .ok (.if_icmp .eq 17, 3) := by decide +kernel
theorem dX9_step_25 : decode cX9_step 25 = .ok (.aload_n 0, 1) := by decide +kernel
theorem dX9_step_26 : decode cX9_step 26 = .ok (.getfield 9, 3) := by decide +kernel
theorem dX9_step_29 : decode cX9_step 29 = .ok (.aload_n 0, 1) := by decide +kernel
theorem dX9_step_30 : decode cX9_step 30 = .ok (.getfield 22, 3) := by decide +kernel
theorem dX9_step_33 : decode cX9_step 33 = .ok (.caload, 1) := by decide +kernel
theorem dX9_step_34 : decode cX9_step 34 = .ok (.bipush 10, 2) := by decide +kernel
theorem dX9_step_36 : decode cX9_step 36 = .ok (.if_icmp .ne 16, 3) := by decide +kernel
theorem dX9_step_39 : decode cX9_step 39 = .ok (.aload_n 0, 1) := by decide +kernel
theorem dX9_step_40 : decode cX9_step 40 = .ok (.dup, 1) := by decide +kernel
theorem dX9_step_41 : decode cX9_step 41 = .ok (.getfield 22, 3) := by decide +kernel
theorem dX9_step_44 : decode cX9_step 44 = .ok (.iconst 1, 1) := by decide +kernel
theorem dX9_step_45 : decode cX9_step 45 = .ok (.iadd, 1) := by decide +kernel
theorem dX9_step_46 : decode cX9_step 46 = .ok (.putfield 22, 3) := by decide +kernel
theorem dX9_step_49 : decode cX9_step 49 = .ok (.goto (-49), 3) := by decide +kernel
theorem dX9_step_52 : decode cX9_step 52 = .ok (.aload_n 0, 1) := by decide +kernel
theorem dX9_step_53 : decode cX9_step 53 = .ok (.aload_n 0, 1) := by decide +kernel
theorem dX9_step_54 : decode cX9_step 54 = .ok (.getfield 22, 3) := by decide +kernel
theorem dX9_step_57 : decode cX9_step 57 = .ok (.putfield 19, 3) := by decide +kernel
theorem dX9_step_60 : decode cX9_step 60 = .ok (.aload_n 0, 1) := by decide +kernel
theorem dX9_step_61 : decode cX9_step 61 = .ok (.getfield 22, 3) := by decide +kernel
theorem dX9_step_64 : decode cX9_step 64 = .ok (.aload_n 0, 1) := by decide +kernel
theorem dX9_step_65 : decode cX9_step 65 = .ok (.getfield 15, 3) := by decide +kernel
theorem dX9_step_68 : decode cX9_step 68 = .ok (.if_icmp .lt 13, 3) := by decide +kernel
theorem dX9_step_71 : decode cX9_step 71 = .ok (.aload_n 0, 1) := by decide +kernel
theorem dX9_step_72 : decode cX9_step 72 = .ok (.getstatic 25, 3) := by decide +kernel
theorem dX9_step_75 : decode cX9_step 75 = .ok (.putfield 31, 3) := by decide +kernel
theorem dX9_step_78 : decode cX9_step 78 = .ok (.goto 125, 3) := by decide +kernel
theorem dX9_step_81 : decode cX9_step 81 = .ok (.aload_n 0, 1) := by decide +kernel
theorem dX9_step_82 : decode cX9_step 82 = .ok (.getfield 9, 3) := by decide +kernel
theorem dX9_step_85 : decode cX9_step 85 = .ok (.aload_n 0, 1) := by decide +kernel
theorem dX9_step_86 : decode cX9_step 86 = .ok (.getfield 22, 3) := by decide +kernel
theorem dX9_step_89 : decode cX9_step 89 = .ok (.caload, 1) := by decide +kernel
theorem dX9_step_90 : decode cX9_step 90 = .ok (.invokestatic 49, 3) := by decide +kernel
theorem dX9_step_93 : decode cX9_step 93 = .ok (.ifCond .eq 41, 3) := by decide +kernel
theorem dX9_step_96 : decode cX9_step 96 = .ok (.aload_n 0, 1) := by decide +kernel
theorem dX9_step_97 : decode cX9_step 97 = .ok (.invokevirtual 53, 3) := by decide +kernel
theorem dX9_step_100 : decode cX9_step 100 = .ok (.aload_n 0, 1) := by decide +kernel
theorem dX9_step_101 : decode cX9_step 101 = .ok (.aload_n 0, 1) := by decide +kernel
theorem dX9_step_102 : decode cX9_step 102 = .ok (.getfield 22, 3) := by decide +kernel
theorem dX9_step_105 : decode cX9_step 105 = .ok (.aload_n 0, 1) := by decide +kernel
theorem dX9_step_106 : decode cX9_step 106 = .ok (.getfield 19, 3) := by decide +kernel
theorem dX9_step_109 : decode cX9_step 109 = .ok (.isub, 1) := by decide +kernel
theorem dX9_step_110 : decode cX9_step 110 = .ok (.bipush 8, 2) := by decide +kernel
theorem dX9_step_112 : decode cX9_step 112 = .ok (.if_icmp .le 9, 3) := by decide +kernel
theorem dX9_step_115 : decode cX9_step 115 = .ok (.getstatic 56, 3) := by decide +kernel
theorem dX9_step_118 : decode cX9_step 118 = .ok (.goto 10, 3) := by decide +kernel
theorem dX9_step_121 : decode cX9_step 121 = .ok (.aload_n 0, 1) := by decide +kernel
theorem dX9_step_122 : decode cX9_step 122 = .ok (.getstatic 59, 3) := by decide +kernel
theorem dX9_step_125 : decode cX9_step 125 = .ok (.invokevirtual 62, 3) := by decide +kernel
theorem dX9_step_128 : decode cX9_step 128 = .ok (.putfield 31, 3) := by decide +kernel
theorem dX9_step_131 : decode cX9_step 131 = .ok (.goto 72, 3) := by decide +kernel
theorem dX9_step_134 : decode cX9_step 134 = .ok (.aload_n 0, 1) := by decide +kernel
theorem dX9_step_135 : decode cX9_step 135 = .ok (.getfield 9, 3) := by decide +kernel
theorem dX9_step_138 : decode cX9_step 138 = .ok (.aload_n 0, 1) := by decide +kernel
theorem dX9_step_139 : decode cX9_step 139 = .ok (.getfield 22, 3) := by decide +kernel
theorem dX9_step_142 : decode cX9_step 142 = .ok (.caload, 1) := by decide +kernel
theorem dX9_step_143 : decode cX9_step 143 = .ok (.invokestatic 66, 3) := by decide +kernel
theorem dX9_step_146 : decode cX9_step 146 = .ok (.ifCond .eq 36, 3) := by decide +kernel
theorem dX9_step_149 : decode cX9_step 149 = .ok (.aload_n 0, 1) := by decide +kernel
theorem dX9_step_150 : decode cX9_step 150 = .ok (.invokevirtual 69, 3) := by decide +kernel
theorem dX9_step_153 : decode cX9_step 153 = .ok (.aload_n 0, 1) := by decide +kernel
theorem dX9_step_154 : decode cX9_step 154 = .ok (.aload_n 0, 1) := by decide +kernel
theorem dX9_step_155 : decode cX9_step 155 = .ok (.getfield 22, 3) := by decide +kernel
theorem dX9_step_158 : decode cX9_step 158 = .ok (.aload_n 0, 1) := by decide +kernel
theorem dX9_step_159 : decode cX9_step 159 = .ok (.getfield 19, 3) := by decide +kernel
theorem dX9_step_162 : decode cX9_step 162 = .ok (.isub, 1) := by decide +kernel
theorem dX9_step_163 : decode cX9_step 163 = .ok (.iconst 4, 1) := by decide +kernel
theorem dX9_step_164 : decode cX9_step 164 = .ok (.if_icmp .le 9, 3) := by decide +kernel
theorem dX9_step_167 : decode cX9_step 167 = .ok (.getstatic 56, 3) := by decide +kernel
theorem dX9_step_170 : decode cX9_step 170 = .ok (.goto 6, 3) := by decide +kernel
theorem dX9_step_173 : decode cX9_step 173 = .ok (.getstatic 72, 3) := by decide +kernel
theorem dX9_step_176 : decode cX9_step 176 = .ok (.putfield 31, 3) := by decide +kernel
theorem dX9_step_179 : decode cX9_step 179 = .ok (.goto 24, 3) := by decide +kernel
theorem dX9_step_182 : decode cX9_step 182 = .ok (.aload_n 0, 1) := by decide +kernel
theorem dX9_step_183 : decode cX9_step 183 = .ok (.dup, 1) := by decide +kernel
theorem dX9_step_184 : decode cX9_step 184 = .ok (.getfield 22, 3) := by decide +kernel
theorem dX9_step_187 : decode cX9_step 187 = .ok (.iconst 1, 1) := by decide +kernel
theorem dX9_step_188 : decode cX9_step 188 = .ok (.iadd, 1) := by decide +kernel
theorem dX9_step_189 : decode cX9_step 189 = .ok (.putfield 22, 3) := by decide +kernel
theorem dX9_step_192 : decode cX9_step 192 = .ok (.aload_n 0, 1) := by decide +kernel
theorem dX9_step_193 : decode cX9_step 193 = .ok (.aload_n 0, 1) := by decide +kernel
theorem dX9_step_194 : decode cX9_step 194 = .ok (.getstatic 56, 3) := by decide +kernel
theorem dX9_step_197 : decode cX9_step 197 = .ok (.invokevirtual 62, 3) := by decide +kernel
theorem dX9_step_200 : decode cX9_step 200 = .ok (.putfield 31, 3) := by decide +kernel
theorem dX9_step_203 : decode cX9_step 203 = .ok (.return_, 1) := by decide +kernel
theorem dX9_stepOverWord_0 : decode cX9_stepOverWord 0 = .ok (.aload_n 0, 1) := by decide +kernel
theorem dX9_stepOverWord_1 : decode cX9_stepOverWord 1 = .ok (.lconst 0, 1) := by decide +kernel
theorem dX9_stepOverWord_2 : decode cX9_stepOverWord 2 = .ok (.putfield 37, 3) := by decide +kernel
theorem dX9_stepOverWord_5 : decode cX9_stepOverWord 5 = .ok (.aload_n 0, 1) := by decide +kernel
theorem dX9_stepOverWord_6 : decode cX9_stepOverWord 6 = .ok (.getfield 22, 3) := by decide +kernel
theorem dX9_stepOverWord_9 : decode cX9_stepOverWord 9 = .ok (.aload_n 0, 1) := by decide +kernel
theorem dX9_stepOverWord_10 : decode cX9_stepOverWord 10 = .ok (.getfield 15, 3) := by decide +kernel
theorem dX9_stepOverWord_13 : decode cX9_stepOverWord 13 = .ok (.if_icmp .ge 57, 3) := by decide +kernel
theorem dX9_stepOverWord_16 : decode cX9_stepOverWord 16 = .ok (.aload_n 0, 1) := by decide +kernel
theorem dX9_stepOverWord_17 : decode cX9_stepOverWord 17 = .ok (.getfield 9, 3) := by decide +kernel
theorem dX9_stepOverWord_20 : decode cX9_stepOverWord 20 = .ok (.aload_n 0, 1) := by decide +kernel
theorem dX9_stepOverWord_21 : decode cX9_stepOverWord 21 = .ok (.getfield 22, 3) := by decide +kernel
theorem dX9_stepOverWord_24 : decode cX9_stepOverWord 24 = .ok (.caload, 1) := by decide +kernel
theorem dX9_stepOverWord_25 : decode cX9_stepOverWord 25 = .ok (.invokestatic 49, 3) := by decide +kernel
theorem dX9_stepOverWord_28 : decode cX9_stepOverWord 28 = .ok (.ifCond .eq 42, 3) := by decide +kernel
theorem dX9_stepOverWord_31 : decode cX9_stepOverWord 31 = .ok (.aload_n 0, 1) := by decide +kernel
theorem dX9_stepOverWord_32 : decode cX9_stepOverWord 32 = .ok (.aload_n 0, 1) := by decide +kernel
theorem dX9_stepOverWord_33 : decode cX9_stepOverWord 33 = .ok (.getfield 37, 3) := by decide +kernel
theorem dX9_stepOverWord_36 : decode cX9_stepOverWord 36 = .ok (.iconst 5, 1) := by decide +kernel
theorem dX9_stepOverWord_37 : decode cX9_stepOverWord 37 = .ok (.lshl, 1) := by decide +kernel
theorem dX9_stepOverWord_38 : decode cX9_stepOverWord 38 = .ok (.aload_n 0, 1) := by decide +kernel
theorem dX9_stepOverWord_39 : decode cX9_stepOverWord 39 = .ok (.getfield 9, 3) := by decide +kernel
theorem dX9_stepOverWord_42 : decode cX9_stepOverWord 42 = .ok (.aload_n 0, 1) := by decide +kernel
theorem dX9_stepOverWord_43 : decode cX9_stepOverWord 43 = .ok (.getfield 22, 3) := by decide +kernel
theorem dX9_stepOverWord_46 : decode cX9_stepOverWord 46 = .ok (.caload, 1) := by decide +kernel
theorem dX9_stepOverWord_47 : decode cX9_stepOverWord 47 = .ok (.bipush 97, 2) := by decide +kernel
theorem dX9_stepOverWord_49 : decode cX9_stepOverWord 49 = .ok (.isub, 1) := by decide +kernel
theorem dX9_stepOverWord_50 : decode cX9_stepOverWord 50 = .ok (.iconst 1, 1) := by decide +kernel
theorem dX9_stepOverWord_51 : decode cX9_stepOverWord 51 = .ok (.iadd, 1) := by decide +kernel
theorem dX9_stepOverWord_52 : decode cX9_stepOverWord 52 = .ok (.i2l, 1) := by decide +kernel
theorem dX9_stepOverWord_53 : decode cX9_stepOverWord 53 = .ok (.lor, 1) := by decide +kernel
theorem dX9_stepOverWord_54 : decode cX9_stepOverWord 54 = .ok (.putfield 37, 3) := by decide +kernel
theorem dX9_stepOverWord_57 : decode cX9_stepOverWord 57 = .ok (.aload_n 0, 1) := by decide +kernel
theorem dX9_stepOverWord_58 : decode cX9_stepOverWord 58 = .ok (.dup, 1) := by decide +kernel
theorem dX9_stepOverWord_59 : decode cX9_stepOverWord 59 = .ok (.getfield 22, 3) := by decide +kernel
theorem dX9_stepOverWord_62 : decode cX9_stepOverWord 62 = .ok (.iconst 1, 1) := by decide +kernel
theorem dX9_stepOverWord_63 : decode cX9_stepOverWord 63 = .ok (.iadd, 1) := by decide +kernel
theorem dX9_stepOverWord_64 : decode cX9_stepOverWord 64 = .ok (.putfield 22, 3) := by decide +kernel
theorem dX9_stepOverWord_67 : decode cX9_stepOverWord 67 = .ok (.goto (-62), 3) := by decide +kernel
theorem dX9_stepOverWord_70 : decode cX9_stepOverWord 70 = .ok (.return_, 1) := by decide +kernel
theorem dX9_stepOverNumber_0 : decode cX9_stepOverNumber 0 = .ok (.aload_n 0, 1) := by decide +kernel
theorem dX9_stepOverNumber_1 : decode cX9_stepOverNumber 1 = .ok (.iconst 0, 1) := by decide +kernel
theorem dX9_stepOverNumber_2 : decode cX9_stepOverNumber 2 = .ok (.putfield 34, 3) := by decide +kernel
theorem dX9_stepOverNumber_5 : decode cX9_stepOverNumber 5 = .ok (.aload_n 0, 1) := by decide +kernel
theorem dX9_stepOverNumber_6 : decode cX9_stepOverNumber 6 = .ok (.getfield 22, 3) := by decide +kernel
theorem dX9_stepOverNumber_9 : decode cX9_stepOverNumber 9 = .ok (.aload_n 0, 1) := by decide +kernel
theorem dX9_stepOverNumber_10 : decode cX9_stepOverNumber 10 = .ok (.getfield 15, 3) := by decide +kernel
theorem dX9_stepOverNumber_13 : decode cX9_stepOverNumber 13 = .ok (.if_icmp .ge 55, 3) := by decide +kernel
theorem dX9_stepOverNumber_16 : decode cX9_stepOverNumber 16 = .ok (.aload_n 0, 1) := by decide +kernel
theorem dX9_stepOverNumber_17 : decode cX9_stepOverNumber 17 = .ok (.getfield 9, 3) := by decide +kernel
theorem dX9_stepOverNumber_20 : decode cX9_stepOverNumber 20 = .ok (.aload_n 0, 1) := by decide +kernel
theorem dX9_stepOverNumber_21 : decode cX9_stepOverNumber 21 = .ok (.getfield 22, 3) := by decide +kernel
theorem dX9_stepOverNumber_24 : decode cX9_stepOverNumber 24 = .ok (.caload, 1) := by decide +kernel
theorem dX9_stepOverNumber_25 : decode cX9_stepOverNumber 25 = .ok (.invokestatic 66, 3) := by decide +kernel
theorem dX9_stepOverNumber_28 : decode cX9_stepOverNumber 28 = .ok (.ifCond .eq 40, 3) := by decide +kernel
theorem dX9_stepOverNumber_31 : decode cX9_stepOverNumber 31 = .ok (.aload_n 0, 1) := by decide +kernel
theorem dX9_stepOverNumber_32 : decode cX9_stepOverNumber 32 = .ok (.aload_n 0, 1) := by decide +kernel
theorem dX9_stepOverNumber_33 : decode cX9_stepOverNumber 33 = .ok (.getfield 34, 3) := by decide +kernel
theorem dX9_stepOverNumber_36 : decode cX9_stepOverNumber 36 = .ok (.bipush 10, 2) := by decide +kernel
theorem dX9_stepOverNumber_38 : decode cX9_stepOverNumber 38 = .ok (.imul, 1) := by decide +kernel
theorem dX9_stepOverNumber_39 : decode cX9_stepOverNumber 39 = .ok (.aload_n 0, 1) := by decide +kernel
theorem dX9_stepOverNumber_40 : decode cX9_stepOverNumber 40 = .ok (.getfield 9, 3) := by decide +kernel
theorem dX9_stepOverNumber_43 : decode cX9_stepOverNumber 43 = .ok (.aload_n 0, 1) := by decide +kernel
theorem dX9_stepOverNumber_44 : decode cX9_stepOverNumber 44 = .ok (.getfield 22, 3) := by decide +kernel
theorem dX9_stepOverNumber_47 : decode cX9_stepOverNumber 47 = .ok (.caload, 1) := by decide +kernel
theorem dX9_stepOverNumber_48 : decode cX9_stepOverNumber 48 = .ok (.bipush 48, 2) := by decide +kernel
theorem dX9_stepOverNumber_50 : decode cX9_stepOverNumber 50 = .ok (.isub, 1) := by decide +kernel
theorem dX9_stepOverNumber_51 : decode cX9_stepOverNumber 51 = .ok (.iadd, 1) := by decide +kernel
theorem dX9_stepOverNumber_52 : decode cX9_stepOverNumber 52 = .ok (.putfield 34, 3) := by decide +kernel
theorem dX9_stepOverNumber_55 : decode cX9_stepOverNumber 55 = .ok (.aload_n 0, 1) := by decide +kernel
theorem dX9_stepOverNumber_56 : decode cX9_stepOverNumber 56 = .ok (.dup, 1) := by decide +kernel
theorem dX9_stepOverNumber_57 : decode cX9_stepOverNumber 57 = .ok (.getfield 22, 3) := by decide +kernel
theorem dX9_stepOverNumber_60 : decode cX9_stepOverNumber 60 = .ok (.iconst 1, 1) := by decide +kernel
theorem dX9_stepOverNumber_61 : decode cX9_stepOverNumber 61 = .ok (.iadd, 1) := by decide +kernel
theorem dX9_stepOverNumber_62 : decode cX9_stepOverNumber 62 = .ok (.putfield 22, 3) := by decide +kernel
theorem dX9_stepOverNumber_65 : decode cX9_stepOverNumber 65 = .ok (.goto (-60), 3) := by decide +kernel
theorem dX9_stepOverNumber_68 : decode cX9_stepOverNumber 68 = .ok (.return_, 1) := by decide +kernel
theorem dX9_sortAs_0 : decode cX9_sortAs 0 = .ok (.iconst 0, 1) := by decide +kernel
theorem dX9_sortAs_1 : decode cX9_sortAs 1 = .ok (.istore_n 2, 1) := by decide +kernel
theorem dX9_sortAs_2 : decode cX9_sortAs 2 = .ok (.iload_n 2, 1) := by decide +kernel
theorem dX9_sortAs_3 : decode cX9_sortAs 3 = .ok (.getstatic 75, 3) := by decide +kernel
theorem dX9_sortAs_6 : decode cX9_sortAs 6 = .ok (.arraylength, 1) := by decide +kernel
theorem dX9_sortAs_7 : decode cX9_sortAs 7 = .ok (.if_icmp .ge 30, 3) := by decide +kernel
theorem dX9_sortAs_10 : decode cX9_sortAs 10 = .ok (.aload_n 0, 1) := by decide +kernel
theorem dX9_sortAs_11 : decode cX9_sortAs 11 = .ok (.getstatic 75, 3) := by decide +kernel
theorem dX9_sortAs_14 : decode cX9_sortAs 14 = .ok (.iload_n 2, 1) := by decide +kernel
theorem dX9_sortAs_15 : decode cX9_sortAs 15 = .ok (.aaload, 1) := by decide +kernel
theorem dX9_sortAs_16 : decode cX9_sortAs 16 = .ok (.getfield 79, 3) := by decide +kernel
theorem dX9_sortAs_19 : decode cX9_sortAs 19 = .ok (.invokevirtual 83, 3) := by decide +kernel
theorem dX9_sortAs_22 : decode cX9_sortAs 22 = .ok (.ifCond .eq 9, 3) := by decide +kernel
theorem dX9_sortAs_25 : decode cX9_sortAs 25 = .ok (.getstatic 75, 3) := by decide +kernel
theorem dX9_sortAs_28 : decode cX9_sortAs 28 = .ok (.iload_n 2, 1) := by decide +kernel
theorem dX9_sortAs_29 : decode cX9_sortAs 29 = .ok (.aaload, 1) := by decide +kernel
theorem dX9_sortAs_30 : decode cX9_sortAs 30 = .ok (.areturn, 1) := by decide +kernel
theorem dX9_sortAs_31 : decode cX9_sortAs 31 = .ok (.iinc 2 1, 3) := by decide +kernel
theorem dX9_sortAs_34 : decode cX9_sortAs 34 = .ok (.goto (-32), 3) := by decide +kernel
theorem dX9_sortAs_37 : decode cX9_sortAs 37 = .ok (.aload_n 1, 1) := by decide +kernel
theorem dX9_sortAs_38 : decode cX9_sortAs 38 = .ok (.areturn, 1) := by decide +kernel
theorem dX9_spells_0 : decode cX9_spells 0 = .ok (.aload_n 0, 1) := by decide +kernel
theorem dX9_spells_1 : decode cX9_spells 1 = .ok (.getfield 22, 3) := by decide +kernel
theorem dX9_spells_4 : decode cX9_spells 4 = .ok (.aload_n 0, 1) := by decide +kernel
theorem dX9_spells_5 : decode cX9_spells 5 = .ok (.getfield 19, 3) := by decide +kernel
theorem dX9_spells_8 : decode cX9_spells 8 = .ok (.isub, 1) := by decide +kernel
theorem dX9_spells_9 : decode cX9_spells 9 = .ok (.aload_n 1, 1) := by decide +kernel
theorem dX9_spells_10 : decode cX9_spells 10 = .ok (.invokevirtual 87, 3) := by decide +kernel
theorem dX9_spells_13 : decode cX9_spells 13 = .ok (.if_icmp .eq 5, 3) := by decide +kernel
theorem dX9_spells_16 : decode cX9_spells 16 = .ok (.iconst 0, 1) := by decide +kernel
theorem dX9_spells_17 : decode cX9_spells 17 = .ok (.ireturn, 1) := by decide +kernel
theorem dX9_spells_18 : decode cX9_spells 18 = .ok (.iconst 0, 1) := by decide +kernel
theorem dX9_spells_19 : decode cX9_spells 19 = .ok (.istore_n 2, 1) := by decide +kernel
theorem dX9_spells_20 : decode cX9_spells 20 = .ok (.iload_n 2, 1) := by decide +kernel
theorem dX9_spells_21 : decode cX9_spells 21 = .ok (.aload_n 1, 1) := by decide +kernel
theorem dX9_spells_22 : decode cX9_spells 22 = .ok (.invokevirtual 87, 3) := by decide +kernel
theorem dX9_spells_25 : decode cX9_spells 25 = .ok (.if_icmp .ge 43, 3) := by decide +kernel
theorem dX9_spells_28 : decode cX9_spells 28 = .ok (.aload_n 0, 1) := by decide +kernel
theorem dX9_spells_29 : decode cX9_spells 29 = .ok (.getfield 19, 3) := by decide +kernel
theorem dX9_spells_32 : decode cX9_spells 32 = .ok (.iload_n 2, 1) := by decide +kernel
theorem dX9_spells_33 : decode cX9_spells 33 = .ok (.iadd, 1) := by decide +kernel
theorem dX9_spells_34 : decode cX9_spells 34 = .ok (.aload_n 0, 1) := by decide +kernel
theorem dX9_spells_35 : decode cX9_spells 35 = .ok (.getfield 15, 3) := by decide +kernel
theorem dX9_spells_38 : decode cX9_spells 38 = .ok (.if_icmp .ge 30, 3) := by decide +kernel
theorem dX9_spells_41 : decode cX9_spells 41 = .ok (.aload_n 0, 1) := by decide +kernel
theorem dX9_spells_42 : decode cX9_spells 42 = .ok (.getfield 9, 3) := by decide +kernel
theorem dX9_spells_45 : decode cX9_spells 45 = .ok (.aload_n 0, 1) := by decide +kernel
theorem dX9_spells_46 : decode cX9_spells 46 = .ok (.getfield 19, 3) := by decide +kernel
theorem dX9_spells_49 : decode cX9_spells 49 = .ok (.iload_n 2, 1) := by decide +kernel
theorem dX9_spells_50 : decode cX9_spells 50 = .ok (.iadd, 1) := by decide +kernel
theorem dX9_spells_51 : decode cX9_spells 51 = .ok (.caload, 1) := by decide +kernel
theorem dX9_spells_52 : decode cX9_spells 52 = .ok (.aload_n 1, 1) := by decide +kernel
theorem dX9_spells_53 : decode cX9_spells 53 = .ok (.iload_n 2, 1) := by decide +kernel
theorem dX9_spells_54 : decode cX9_spells 54 = .ok (.invokevirtual 92, 3) := by decide +kernel
theorem dX9_spells_57 : decode cX9_spells 57 = .ok (.if_icmp .eq 5, 3) := by decide +kernel
theorem dX9_spells_60 : decode cX9_spells 60 = .ok (.iconst 0, 1) := by decide +kernel
theorem dX9_spells_61 : decode cX9_spells 61 = .ok (.ireturn, 1) := by decide +kernel
theorem dX9_spells_62 : decode cX9_spells 62 = .ok (.iinc 2 1, 3) := by decide +kernel
theorem dX9_spells_65 : decode cX9_spells 65 = .ok (.goto (-45), 3) := by decide +kernel
theorem dX9_spells_68 : decode cX9_spells 68 = .ok (.iconst 1, 1) := by decide +kernel
theorem dX9_spells_69 : decode cX9_spells 69 = .ok (.ireturn, 1) := by decide +kernel
theorem dX9_isLetter_0 : decode cX9_isLetter 0 = .ok (.iload_n 0, 1) := by decide +kernel
theorem dX9_isLetter_1 : decode cX9_isLetter 1 = .ok (.bipush 97, 2) := by decide +kernel
theorem dX9_isLetter_3 : decode cX9_isLetter 3 = .ok (.if_icmp .lt 13, 3) := by decide +kernel
theorem dX9_isLetter_6 : decode cX9_isLetter 6 = .ok (.iload_n 0, 1) := by decide +kernel
theorem dX9_isLetter_7 : decode cX9_isLetter 7 = .ok (.bipush 122, 2) := by decide +kernel
theorem dX9_isLetter_9 : decode cX9_isLetter 9 = .ok (.if_icmp .gt 7, 3) := by decide +kernel
theorem dX9_isLetter_12 : decode cX9_isLetter 12 = .ok (.iconst 1, 1) := by decide +kernel
theorem dX9_isLetter_13 : decode cX9_isLetter 13 = .ok (.goto 4, 3) := by decide +kernel
theorem dX9_isLetter_16 : decode cX9_isLetter 16 = .ok (.iconst 0, 1) := by decide +kernel
theorem dX9_isLetter_17 : decode cX9_isLetter 17 = .ok (.ireturn, 1) := by decide +kernel
theorem dX9_isDigit_0 : decode cX9_isDigit 0 = .ok (.iload_n 0, 1) := by decide +kernel
theorem dX9_isDigit_1 : decode cX9_isDigit 1 = .ok (.bipush 48, 2) := by decide +kernel
theorem dX9_isDigit_3 : decode cX9_isDigit 3 = .ok (.if_icmp .lt 13, 3) := by decide +kernel
theorem dX9_isDigit_6 : decode cX9_isDigit 6 = .ok (.iload_n 0, 1) := by decide +kernel
theorem dX9_isDigit_7 : decode cX9_isDigit 7 = .ok (.bipush 57, 2) := by decide +kernel
theorem dX9_isDigit_9 : decode cX9_isDigit 9 = .ok (.if_icmp .gt 7, 3) := by decide +kernel
theorem dX9_isDigit_12 : decode cX9_isDigit 12 = .ok (.iconst 1, 1) := by decide +kernel
theorem dX9_isDigit_13 : decode cX9_isDigit 13 = .ok (.goto 4, 3) := by decide +kernel
theorem dX9_isDigit_16 : decode cX9_isDigit 16 = .ok (.iconst 0, 1) := by decide +kernel
theorem dX9_isDigit_17 : decode cX9_isDigit 17 = .ok (.ireturn, 1) := by decide +kernel
theorem dX9_wrong_0 : decode cX9_wrong 0 = .ok (.aload_n 0, 1) := by decide +kernel
theorem dX9_wrong_1 : decode cX9_wrong 1 = .ok (.iload_n 1, 1) := by decide +kernel
theorem dX9_wrong_2 : decode cX9_wrong 2 = .ok (.bipush 16, 2) := by decide +kernel
theorem dX9_wrong_4 : decode cX9_wrong 4 = .ok (.aload_n 0, 1) := by decide +kernel
theorem dX9_wrong_5 : decode cX9_wrong 5 = .ok (.getfield 19, 3) := by decide +kernel
theorem dX9_wrong_8 : decode cX9_wrong 8 = .ok (.imul, 1) := by decide +kernel
theorem dX9_wrong_9 : decode cX9_wrong 9 = .ok (.iadd, 1) := by decide +kernel
theorem dX9_wrong_10 : decode cX9_wrong 10 = .ok (.putfield 41, 3) := by decide +kernel
theorem dX9_wrong_13 : decode cX9_wrong 13 = .ok (.iconst 0, 1) := by decide +kernel
theorem dX9_wrong_14 : decode cX9_wrong 14 = .ok (.ireturn, 1) := by decide +kernel
theorem dX9_take_0 : decode cX9_take 0 = .ok (.aload_n 0, 1) := by decide +kernel
theorem dX9_take_1 : decode cX9_take 1 = .ok (.getfield 31, 3) := by decide +kernel
theorem dX9_take_4 : decode cX9_take 4 = .ok (.aload_n 1, 1) := by decide +kernel
theorem dX9_take_5 : decode cX9_take 5 = .ok (.if_acmp .eq 9, 3) := by decide +kernel
theorem dX9_take_8 : decode cX9_take 8 = .ok (.aload_n 0, 1) := by decide +kernel
theorem dX9_take_9 : decode cX9_take 9 = .ok (.iconst 1, 1) := by decide +kernel
theorem dX9_take_10 : decode cX9_take 10 = .ok (.invokevirtual 96, 3) := by decide +kernel
theorem dX9_take_13 : decode cX9_take 13 = .ok (.ireturn, 1) := by decide +kernel
theorem dX9_take_14 : decode cX9_take 14 = .ok (.aload_n 0, 1) := by decide +kernel
theorem dX9_take_15 : decode cX9_take 15 = .ok (.invokevirtual 46, 3) := by decide +kernel
theorem dX9_take_18 : decode cX9_take 18 = .ok (.iconst 1, 1) := by decide +kernel
theorem dX9_take_19 : decode cX9_take 19 = .ok (.ireturn, 1) := by decide +kernel
theorem dX9_takeNumber_0 : decode cX9_takeNumber 0 = .ok (.aload_n 0, 1) := by decide +kernel
theorem dX9_takeNumber_1 : decode cX9_takeNumber 1 = .ok (.getfield 31, 3) := by decide +kernel
theorem dX9_takeNumber_4 : decode cX9_takeNumber 4 = .ok (.getstatic 72, 3) := by decide +kernel
theorem dX9_takeNumber_7 : decode cX9_takeNumber 7 = .ok (.if_acmp .ne 19, 3) := by decide +kernel
theorem dX9_takeNumber_10 : decode cX9_takeNumber 10 = .ok (.aload_n 0, 1) := by decide +kernel
theorem dX9_takeNumber_11 : decode cX9_takeNumber 11 = .ok (.getfield 34, 3) := by decide +kernel
theorem dX9_takeNumber_14 : decode cX9_takeNumber 14 = .ok (.iload_n 1, 1) := by decide +kernel
theorem dX9_takeNumber_15 : decode cX9_takeNumber 15 = .ok (.if_icmp .lt 11, 3) := by decide +kernel
theorem dX9_takeNumber_18 : decode cX9_takeNumber 18 = .ok (.aload_n 0, 1) := by decide +kernel
theorem dX9_takeNumber_19 : decode cX9_takeNumber 19 = .ok (.getfield 34, 3) := by decide +kernel
theorem dX9_takeNumber_22 : decode cX9_takeNumber 22 = .ok (.iload_n 2, 1) := by decide +kernel
theorem dX9_takeNumber_23 : decode cX9_takeNumber 23 = .ok (.if_icmp .le 25, 3) := by decide +kernel
theorem dX9_takeNumber_26 : decode cX9_takeNumber 26 = .ok (.aload_n 0, 1) := by decide +kernel
theorem dX9_takeNumber_27 : decode cX9_takeNumber 27 = .ok (.aload_n 0, 1) := by decide +kernel
theorem dX9_takeNumber_28 : decode cX9_takeNumber 28 = .ok (.getfield 31, 3) := by decide +kernel
theorem dX9_takeNumber_31 : decode cX9_takeNumber 31 = .ok (.getstatic 72, 3) := by decide +kernel
theorem dX9_takeNumber_34 : decode cX9_takeNumber 34 = .ok (.if_acmp .eq 7, 3) := by decide +kernel
theorem dX9_takeNumber_37 : decode cX9_takeNumber 37 = .ok (.iconst 1, 1) := by decide +kernel
theorem dX9_takeNumber_38 : decode cX9_takeNumber 38 = .ok (.goto 4, 3) := by decide +kernel
theorem dX9_takeNumber_41 : decode cX9_takeNumber 41 = .ok (.iconst 4, 1) := by decide +kernel
theorem dX9_takeNumber_42 : decode cX9_takeNumber 42 = .ok (.invokevirtual 96, 3) := by decide +kernel
theorem dX9_takeNumber_45 : decode cX9_takeNumber 45 = .ok (.pop, 1) := by decide +kernel
theorem dX9_takeNumber_46 : decode cX9_takeNumber 46 = .ok (.iconst (-1), 1) := by decide +kernel
theorem dX9_takeNumber_47 : decode cX9_takeNumber 47 = .ok (.ireturn, 1) := by decide +kernel
theorem dX9_takeNumber_48 : decode cX9_takeNumber 48 = .ok (.aload_n 0, 1) := by decide +kernel
theorem dX9_takeNumber_49 : decode cX9_takeNumber 49 = .ok (.getfield 34, 3) := by decide +kernel
theorem dX9_takeNumber_52 : decode cX9_takeNumber 52 = .ok (.istore_n 3, 1) := by decide +kernel
theorem dX9_takeNumber_53 : decode cX9_takeNumber 53 = .ok (.aload_n 0, 1) := by decide +kernel
theorem dX9_takeNumber_54 : decode cX9_takeNumber 54 = .ok (.invokevirtual 46, 3) := by decide +kernel
theorem dX9_takeNumber_57 : decode cX9_takeNumber 57 = .ok (.iload_n 3, 1) := by decide +kernel
theorem dX9_takeNumber_58 : decode cX9_takeNumber 58 = .ok (.ireturn, 1) := by decide +kernel
theorem dX9_townHere_0 : decode cX9_townHere 0 = .ok (.aload_n 0, 1) := by decide +kernel
theorem dX9_townHere_1 : decode cX9_townHere 1 = .ok (.getfield 31, 3) := by decide +kernel
theorem dX9_townHere_4 : decode cX9_townHere 4 = .ok (.getstatic 59, 3) := by decide +kernel
theorem dX9_townHere_7 : decode cX9_townHere 7 = .ok (.if_acmp .ne 14, 3) := by decide +kernel
theorem dX9_townHere_10 : decode cX9_townHere 10 = .ok (.aload_n 1, 1) := by decide +kernel
theorem dX9_townHere_11 : decode cX9_townHere 11 = .ok (.aload_n 0, 1) := by decide +kernel
theorem dX9_townHere_12 : decode cX9_townHere 12 = .ok (.getfield 37, 3) := by decide +kernel
theorem dX9_townHere_15 : decode cX9_townHere 15 = .ok (.invokevirtual 100, 3) := by decide +kernel
theorem dX9_townHere_18 : decode cX9_townHere 18 = .ok (.goto 4, 3) := by decide +kernel
theorem dX9_townHere_21 : decode cX9_townHere 21 = .ok (.iconst (-1), 1) := by decide +kernel
theorem dX9_townHere_22 : decode cX9_townHere 22 = .ok (.istore_n 2, 1) := by decide +kernel
theorem dX9_townHere_23 : decode cX9_townHere 23 = .ok (.iload_n 2, 1) := by decide +kernel
theorem dX9_townHere_24 : decode cX9_townHere 24 = .ok (.iconst (-1), 1) := by decide +kernel
theorem dX9_townHere_25 : decode cX9_townHere 25 = .ok (.if_icmp .ne 23, 3) := by decide +kernel
theorem dX9_townHere_28 : decode cX9_townHere 28 = .ok (.aload_n 0, 1) := by decide +kernel
theorem dX9_townHere_29 : decode cX9_townHere 29 = .ok (.aload_n 0, 1) := by decide +kernel
theorem dX9_townHere_30 : decode cX9_townHere 30 = .ok (.getfield 31, 3) := by decide +kernel
theorem dX9_townHere_33 : decode cX9_townHere 33 = .ok (.getstatic 59, 3) := by decide +kernel
theorem dX9_townHere_36 : decode cX9_townHere 36 = .ok (.if_acmp .ne 7, 3) := by decide +kernel
theorem dX9_townHere_39 : decode cX9_townHere 39 = .ok (.iconst 2, 1) := by decide +kernel
theorem dX9_townHere_40 : decode cX9_townHere 40 = .ok (.goto 4, 3) := by decide +kernel
theorem dX9_townHere_43 : decode cX9_townHere 43 = .ok (.iconst 1, 1) := by decide +kernel
theorem dX9_townHere_44 : decode cX9_townHere 44 = .ok (.invokevirtual 96, 3) := by decide +kernel
theorem dX9_townHere_47 : decode cX9_townHere 47 = .ok (.pop, 1) := by decide +kernel
theorem dX9_townHere_48 : decode cX9_townHere 48 = .ok (.iload_n 2, 1) := by decide +kernel
theorem dX9_townHere_49 : decode cX9_townHere 49 = .ok (.ireturn, 1) := by decide +kernel
theorem dX9_personHere_0 : decode cX9_personHere 0 = .ok (.aload_n 0, 1) := by decide +kernel
theorem dX9_personHere_1 : decode cX9_personHere 1 = .ok (.getfield 31, 3) := by decide +kernel
theorem dX9_personHere_4 : decode cX9_personHere 4 = .ok (.getstatic 59, 3) := by decide +kernel
theorem dX9_personHere_7 : decode cX9_personHere 7 = .ok (.if_acmp .ne 14, 3) := by decide +kernel
theorem dX9_personHere_10 : decode cX9_personHere 10 = .ok (.aload_n 1, 1) := by decide +kernel
theorem dX9_personHere_11 : decode cX9_personHere 11 = .ok (.aload_n 0, 1) := by decide +kernel
theorem dX9_personHere_12 : decode cX9_personHere 12 = .ok (.getfield 37, 3) := by decide +kernel
theorem dX9_personHere_15 : decode cX9_personHere 15 = .ok (.invokevirtual 106, 3) := by decide +kernel
theorem dX9_personHere_18 : decode cX9_personHere 18 = .ok (.goto 4, 3) := by decide +kernel
theorem dX9_personHere_21 : decode cX9_personHere 21 = .ok (.iconst (-1), 1) := by decide +kernel
theorem dX9_personHere_22 : decode cX9_personHere 22 = .ok (.istore_n 2, 1) := by decide +kernel
theorem dX9_personHere_23 : decode cX9_personHere 23 = .ok (.iload_n 2, 1) := by decide +kernel
theorem dX9_personHere_24 : decode cX9_personHere 24 = .ok (.iconst (-1), 1) := by decide +kernel
theorem dX9_personHere_25 : decode cX9_personHere 25 = .ok (.if_icmp .ne 23, 3) := by decide +kernel
theorem dX9_personHere_28 : decode cX9_personHere 28 = .ok (.aload_n 0, 1) := by decide +kernel
theorem dX9_personHere_29 : decode cX9_personHere 29 = .ok (.aload_n 0, 1) := by decide +kernel
theorem dX9_personHere_30 : decode cX9_personHere 30 = .ok (.getfield 31, 3) := by decide +kernel
theorem dX9_personHere_33 : decode cX9_personHere 33 = .ok (.getstatic 59, 3) := by decide +kernel
theorem dX9_personHere_36 : decode cX9_personHere 36 = .ok (.if_acmp .ne 7, 3) := by decide +kernel
theorem dX9_personHere_39 : decode cX9_personHere 39 = .ok (.iconst 2, 1) := by decide +kernel
theorem dX9_personHere_40 : decode cX9_personHere 40 = .ok (.goto 4, 3) := by decide +kernel
theorem dX9_personHere_43 : decode cX9_personHere 43 = .ok (.iconst 1, 1) := by decide +kernel
theorem dX9_personHere_44 : decode cX9_personHere 44 = .ok (.invokevirtual 96, 3) := by decide +kernel
theorem dX9_personHere_47 : decode cX9_personHere 47 = .ok (.pop, 1) := by decide +kernel
theorem dX9_personHere_48 : decode cX9_personHere 48 = .ok (.iload_n 2, 1) := by decide +kernel
theorem dX9_personHere_49 : decode cX9_personHere 49 = .ok (.ireturn, 1) := by decide +kernel
theorem dX10_lay_0 : decode cX10_lay 0 = .ok (.aload_n 0, 1) := by decide +kernel
theorem dX10_lay_1 : decode cX10_lay 1 = .ok (.getfield 22, 3) := by decide +kernel
theorem dX10_lay_4 : decode cX10_lay 4 = .ok (.iconst 0, 1) := by decide +kernel
theorem dX10_lay_5 : decode cX10_lay 5 = .ok (.invokestatic 39, 3) := by decide +kernel
theorem dX10_lay_8 : decode cX10_lay 8 = .ok (.aload_n 0, 1) := by decide +kernel
theorem dX10_lay_9 : decode cX10_lay 9 = .ok (.getfield 31, 3) := by decide +kernel
theorem dX10_lay_12 : decode cX10_lay 12 = .ok (.getfield 45, 3) := by decide +kernel
theorem dX10_lay_15 : decode cX10_lay 15 = .ok (.iload_n 2, 1) := by decide +kernel
theorem dX10_lay_16 : decode cX10_lay 16 = .ok (.iaload, 1) := by decide +kernel
theorem dX10_lay_17 : decode cX10_lay 17 = .ok (.iconst 1, 1) := by decide +kernel
theorem dX10_lay_18 : decode cX10_lay 18 = .ok (.if_icmp .eq 57, 3) := by decide +kernel
theorem dX10_lay_21 : decode cX10_lay 21 = .ok (.aload_n 0, 1) := by decide +kernel
theorem dX10_lay_22 : decode cX10_lay 22 = .ok (.getfield 35, 3) := by decide +kernel
theorem dX10_lay_25 : decode cX10_lay 25 = .ok (.aload_n 1, 1) := by decide +kernel
theorem dX10_lay_26 : decode cX10_lay 26 = .ok (.iload_n 2, 1) := by decide +kernel
theorem dX10_lay_27 : decode cX10_lay 27 = .ok (.iload_n 3, 1) := by decide +kernel
theorem dX10_lay_28 : decode cX10_lay 28 = .ok (.invokevirtual 50, 3) := by decide +kernel
theorem dX10_lay_31 : decode cX10_lay 31 = .ok (.istore 4, 2) := by decide +kernel
theorem dX10_lay_33 : decode cX10_lay 33 = .ok (.iconst 0, 1) := by decide +kernel
theorem dX10_lay_34 : decode cX10_lay 34 = .ok (.istore 5, 2) := by decide +kernel
theorem dX10_lay_36 : decode cX10_lay 36 = .ok (.iload 5, 2) := by decide +kernel
theorem dX10_lay_38 : decode cX10_lay 38 = .ok (.aload_n 0, 1) := by decide +kernel
theorem dX10_lay_39 : decode cX10_lay 39 = .ok (.getfield 31, 3) := by decide +kernel
theorem dX10_lay_42 : decode cX10_lay 42 = .ok (.getfield 56, 3) := by decide +kernel
theorem dX10_lay_45 : decode cX10_lay 45 = .ok (.if_icmp .ge 29, 3) := by decide +kernel
theorem dX10_lay_48 : decode cX10_lay 48 = .ok (.aload_n 0, 1) := by decide +kernel
theorem dX10_lay_49 : decode cX10_lay 49 = .ok (.getfield 22, 3) := by decide +kernel
theorem dX10_lay_52 : decode cX10_lay 52 = .ok (.iload 5, 2) := by decide +kernel
theorem dX10_lay_54 : decode cX10_lay 54 = .ok (.aload_n 0, 1) := by decide +kernel
theorem dX10_lay_55 : decode cX10_lay 55 = .ok (.getfield 31, 3) := by decide +kernel
theorem dX10_lay_58 : decode cX10_lay 58 = .ok (.getfield 60, 3) := by decide +kernel
theorem dX10_lay_61 : decode cX10_lay 61 = .ok (.iload 5, 2) := by decide +kernel
theorem dX10_lay_63 : decode cX10_lay 63 = .ok (.iaload, 1) := by decide +kernel
theorem dX10_lay_64 : decode cX10_lay 64 = .ok (.iload 4, 2) := by decide +kernel
theorem dX10_lay_66 : decode cX10_lay 66 = .ok (.iand, 1) := by decide +kernel
theorem dX10_lay_67 : decode cX10_lay 67 = .ok (.iastore, 1) := by decide +kernel
theorem dX10_lay_68 : decode cX10_lay 68 = .ok (.iinc 5 1, 3) := by decide +kernel
theorem dX10_lay_71 : decode cX10_lay 71 = .ok (.goto (-35), 3) := by decide +kernel
theorem dX10_lay_74 : decode cX10_lay 74 = .ok (.return_, 1) := by decide +kernel
theorem dX10_lay_75 : decode cX10_lay 75 = .ok (.iconst 0, 1) := by decide +kernel
theorem dX10_lay_76 : decode cX10_lay 76 = .ok (.istore 4, 2) := by decide +kernel
theorem dX10_lay_78 : decode cX10_lay 78 = .ok (.iload 4, 2) := by decide +kernel
theorem dX10_lay_80 : decode cX10_lay 80 = .ok (.aload_n 0, 1) := by decide +kernel
theorem dX10_lay_81 : decode cX10_lay 81 = .ok (.getfield 31, 3) := by decide +kernel
theorem dX10_lay_84 : decode cX10_lay 84 = .ok (.getfield 63, 3) := by decide +kernel
theorem dX10_lay_87 : decode cX10_lay 87 = .ok (.if_icmp .ge 64, 3) := by decide +kernel
theorem dX10_lay_90 : decode cX10_lay 90 = .ok (.aload_n 0, 1) := by decide +kernel
theorem dX10_lay_91 : decode cX10_lay 91 = .ok (.getfield 31, 3) := by decide +kernel
theorem dX10_lay_94 : decode cX10_lay 94 = .ok (.getfield 45, 3) := by decide +kernel
theorem dX10_lay_97 : decode cX10_lay 97 = .ok (.iload 4, 2) := by decide +kernel
theorem dX10_lay_99 : decode cX10_lay 99 = .ok (.iaload, 1) := by decide +kernel
theorem dX10_lay_100 : decode cX10_lay 100 = .ok (.iconst 1, 1) := by decide +kernel
theorem dX10_lay_101 : decode cX10_lay 101 = .ok (.if_icmp .eq 44, 3) := by decide +kernel
theorem dX10_lay_104 : decode cX10_lay 104 = .ok (.aload_n 1, 1) := by decide +kernel
theorem dX10_lay_105 : decode cX10_lay 105 = .ok (.getfield 66, 3) := by decide +kernel
theorem dX10_lay_108 : decode cX10_lay 108 = .ok (.iload 4, 2) := by decide +kernel
theorem dX10_lay_110 : decode cX10_lay 110 = .ok (.iaload, 1) := by decide +kernel
theorem dX10_lay_111 : decode cX10_lay 111 = .ok (.istore 5, 2) := by decide +kernel
theorem dX10_lay_113 : decode cX10_lay 113 = .ok (.aload_n 0, 1) := by decide +kernel
theorem dX10_lay_114 : decode cX10_lay 114 = .ok (.getfield 22, 3) := by decide +kernel
theorem dX10_lay_117 : decode cX10_lay 117 = .ok (.iload 5, 2) := by decide +kernel
theorem dX10_lay_119 : decode cX10_lay 119 = .ok (.dup2, 1) := by decide +kernel
theorem dX10_lay_120 : decode cX10_lay 120 = .ok (.iaload, 1) := by decide +kernel
theorem dX10_lay_121 : decode cX10_lay 121 = .ok (.aload_n 0, 1) := by decide +kernel
theorem dX10_lay_122 : decode cX10_lay 122 = .ok (.getfield 31, 3) := by decide +kernel
theorem dX10_lay_125 : decode cX10_lay 125 = .ok (.getfield 60, 3) := by decide +kernel
theorem dX10_lay_128 : decode cX10_lay 128 = .ok (.iload 5, 2) := by decide +kernel
theorem dX10_lay_130 : decode cX10_lay 130 = .ok (.iaload, 1) := by decide +kernel
theorem dX10_lay_131 : decode cX10_lay 131 = .ok (.aload_n 0, 1) := by decide +kernel
theorem dX10_lay_132 : decode cX10_lay 132 = .ok (.getfield 35, 3) := by decide +kernel
theorem dX10_lay_135 : decode cX10_lay 135 = .ok (.aload_n 1, 1) := by decide +kernel
theorem dX10_lay_136 : decode cX10_lay 136 = .ok (.iload 4, 2) := by decide +kernel
theorem dX10_lay_138 : decode cX10_lay 138 = .ok (.iload_n 3, 1) := by decide +kernel
theorem dX10_lay_139 : decode cX10_lay 139 = .ok (.invokevirtual 50, 3) := by decide +kernel
theorem dX10_lay_142 : decode cX10_lay 142 = .ok (.iand, 1) := by decide +kernel
theorem dX10_lay_143 : decode cX10_lay 143 = .ok (.ior, 1) := by decide +kernel
theorem dX10_lay_144 : decode cX10_lay 144 = .ok (.iastore, 1) := by decide +kernel
theorem dX10_lay_145 : decode cX10_lay 145 = .ok (.iinc 4 1, 3) := by decide +kernel
theorem dX10_lay_148 : decode cX10_lay 148 = .ok (.goto (-70), 3) := by decide +kernel
theorem dX10_lay_151 : decode cX10_lay 151 = .ok (.return_, 1) := by decide +kernel
theorem dX10_widen_0 : decode cX10_widen 0 = .ok (.iload_n 1, 1) := by decide +kernel
theorem dX10_widen_1 : decode cX10_widen 1 = .ok (.istore_n 2, 1) := by decide +kernel
theorem dX10_widen_2 : decode cX10_widen 2 = .ok (.iconst 0, 1) := by decide +kernel
theorem dX10_widen_3 : decode cX10_widen 3 = .ok (.istore_n 3, 1) := by decide +kernel
theorem dX10_widen_4 : decode cX10_widen 4 = .ok (.iload_n 3, 1) := by decide +kernel
theorem dX10_widen_5 : decode cX10_widen 5 = .ok (.aload_n 0, 1) := by decide +kernel
theorem dX10_widen_6 : decode cX10_widen 6 = .ok (.getfield 31, 3) := by decide +kernel
theorem dX10_widen_9 : decode cX10_widen 9 = .ok (.getfield 56, 3) := by decide +kernel
theorem dX10_widen_12 : decode cX10_widen 12 = .ok (.if_icmp .ge 26, 3) := by decide +kernel
theorem dX10_widen_15 : decode cX10_widen 15 = .ok (.iload_n 1, 1) := by decide +kernel
theorem dX10_widen_16 : decode cX10_widen 16 = .ok (.iload_n 3, 1) := by decide +kernel
theorem dX10_widen_17 : decode cX10_widen 17 = .ok (.invokestatic 69, 3) := by decide +kernel
theorem dX10_widen_20 : decode cX10_widen 20 = .ok (.ifCond .eq 12, 3) := by decide +kernel
theorem dX10_widen_23 : decode cX10_widen 23 = .ok (.iload_n 2, 1) := by decide +kernel
theorem dX10_widen_24 : decode cX10_widen 24 = .ok (.aload_n 0, 1) := by decide +kernel
theorem dX10_widen_25 : decode cX10_widen 25 = .ok (.getfield 22, 3) := by decide +kernel
theorem dX10_widen_28 : decode cX10_widen 28 = .ok (.iload_n 3, 1) := by decide +kernel
theorem dX10_widen_29 : decode cX10_widen 29 = .ok (.iaload, 1) := by decide +kernel
theorem dX10_widen_30 : decode cX10_widen 30 = .ok (.ior, 1) := by decide +kernel
theorem dX10_widen_31 : decode cX10_widen 31 = .ok (.istore_n 2, 1) := by decide +kernel
theorem dX10_widen_32 : decode cX10_widen 32 = .ok (.iinc 3 1, 3) := by decide +kernel
theorem dX10_widen_35 : decode cX10_widen 35 = .ok (.goto (-31), 3) := by decide +kernel
theorem dX10_widen_38 : decode cX10_widen 38 = .ok (.iload_n 2, 1) := by decide +kernel
theorem dX10_widen_39 : decode cX10_widen 39 = .ok (.ireturn, 1) := by decide +kernel
theorem dX10_spread_0 : decode cX10_spread 0 = .ok (.iload_n 1, 1) := by decide +kernel
theorem dX10_spread_1 : decode cX10_spread 1 = .ok (.istore_n 2, 1) := by decide +kernel
theorem dX10_spread_2 : decode cX10_spread 2 = .ok (.iconst 1, 1) := by decide +kernel
theorem dX10_spread_3 : decode cX10_spread 3 = .ok (.istore_n 3, 1) := by decide +kernel
theorem dX10_spread_4 : decode cX10_spread 4 = .ok (.iload_n 3, 1) := by decide +kernel
theorem dX10_spread_5 : decode cX10_spread 5 = .ok (.aload_n 0, 1) := by decide +kernel
theorem dX10_spread_6 : decode cX10_spread 6 = .ok (.getfield 31, 3) := by decide +kernel
theorem dX10_spread_9 : decode cX10_spread 9 = .ok (.getfield 56, 3) := by decide +kernel
theorem dX10_spread_12 : decode cX10_spread 12 = .ok (.if_icmp .ge 15, 3) := by decide +kernel
theorem dX10_spread_15 : decode cX10_spread 15 = .ok (.aload_n 0, 1) := by decide +kernel
theorem dX10_spread_16 : decode cX10_spread 16 = .ok (.iload_n 2, 1) := by decide +kernel
theorem dX10_spread_17 : decode cX10_spread 17 = .ok (.invokevirtual 73, 3) := by decide +kernel
theorem dX10_spread_20 : decode cX10_spread 20 = .ok (.istore_n 2, 1) := by decide +kernel
theorem dX10_spread_21 : decode cX10_spread 21 = .ok (.iinc 3 1, 3) := by decide +kernel
theorem dX10_spread_24 : decode cX10_spread 24 = .ok (.goto (-20), 3) := by decide +kernel
theorem dX10_spread_27 : decode cX10_spread 27 = .ok (.iload_n 2, 1) := by decide +kernel
theorem dX10_spread_28 : decode cX10_spread 28 = .ok (.ireturn, 1) := by decide +kernel
theorem dX10_reachOf_0 : decode cX10_reachOf 0 = .ok (.aload_n 0, 1) := by decide +kernel
theorem dX10_reachOf_1 : decode cX10_reachOf 1 = .ok (.aload_n 1, 1) := by decide +kernel
theorem dX10_reachOf_2 : decode cX10_reachOf 2 = .ok (.iload_n 2, 1) := by decide +kernel
theorem dX10_reachOf_3 : decode cX10_reachOf 3 = .ok (.iload_n 3, 1) := by decide +kernel
theorem dX10_reachOf_4 : decode cX10_reachOf 4 = .ok (.invokevirtual 77, 3) := by decide +kernel
theorem dX10_reachOf_7 : decode cX10_reachOf 7 = .ok (.aload_n 0, 1) := by decide +kernel
theorem dX10_reachOf_8 : decode cX10_reachOf 8 = .ok (.iconst 1, 1) := by decide +kernel
theorem dX10_reachOf_9 : decode cX10_reachOf 9 = .ok (.aload_n 1, 1) := by decide +kernel
theorem dX10_reachOf_10 : decode cX10_reachOf 10 = .ok (.getfield 66, 3) := by decide +kernel
theorem dX10_reachOf_13 : decode cX10_reachOf 13 = .ok (.iload_n 2, 1) := by decide +kernel
theorem dX10_reachOf_14 : decode cX10_reachOf 14 = .ok (.iaload, 1) := by decide +kernel
theorem dX10_reachOf_15 : decode cX10_reachOf 15 = .ok (.ishl, 1) := by decide +kernel
theorem dX10_reachOf_16 : decode cX10_reachOf 16 = .ok (.invokevirtual 81, 3) := by decide +kernel
theorem dX10_reachOf_19 : decode cX10_reachOf 19 = .ok (.ireturn, 1) := by decide +kernel
theorem dX10_distance_0 : decode cX10_distance 0 = .ok (.iconst 1, 1) := by decide +kernel
theorem dX10_distance_1 : decode cX10_distance 1 = .ok (.iload_n 1, 1) := by decide +kernel
theorem dX10_distance_2 : decode cX10_distance 2 = .ok (.ishl, 1) := by decide +kernel
theorem dX10_distance_3 : decode cX10_distance 3 = .ok (.istore_n 3, 1) := by decide +kernel
theorem dX10_distance_4 : decode cX10_distance 4 = .ok (.iconst 0, 1) := by decide +kernel
theorem dX10_distance_5 : decode cX10_distance 5 = .ok (.istore 4, 2) := by decide +kernel
theorem dX10_distance_7 : decode cX10_distance 7 = .ok (.iload 4, 2) := by decide +kernel
theorem dX10_distance_9 : decode cX10_distance 9 = .ok (.aload_n 0, 1) := by decide +kernel
theorem dX10_distance_10 : decode cX10_distance 10 = .ok (.getfield 31, 3) := by decide +kernel
theorem dX10_distance_13 : decode cX10_distance 13 = .ok (.getfield 56, 3) := by decide +kernel
theorem dX10_distance_16 : decode cX10_distance 16 = .ok (.if_icmp .ge 26, 3) := by decide +kernel
theorem dX10_distance_19 : decode cX10_distance 19 = .ok (.iload_n 3, 1) := by decide +kernel
theorem dX10_distance_20 : decode cX10_distance 20 = .ok (.iload_n 2, 1) := by decide +kernel
theorem dX10_distance_21 : decode cX10_distance 21 = .ok (.invokestatic 69, 3) := by decide +kernel
theorem dX10_distance_24 : decode cX10_distance 24 = .ok (.ifCond .eq 6, 3) := by decide +kernel
theorem dX10_distance_27 : decode cX10_distance 27 = .ok (.iload 4, 2) := by decide +kernel
theorem dX10_distance_29 : decode cX10_distance 29 = .ok (.ireturn, 1) := by decide +kernel
theorem dX10_distance_30 : decode cX10_distance 30 = .ok (.aload_n 0, 1) := by decide +kernel
theorem dX10_distance_31 : decode cX10_distance 31 = .ok (.iload_n 3, 1) := by decide +kernel
theorem dX10_distance_32 : decode cX10_distance 32 = .ok (.invokevirtual 73, 3) := by decide +kernel
theorem dX10_distance_35 : decode cX10_distance 35 = .ok (.istore_n 3, 1) := by decide +kernel
theorem dX10_distance_36 : decode cX10_distance 36 = .ok (.iinc 4 1, 3) := by decide +kernel
theorem dX10_distance_39 : decode cX10_distance 39 = .ok (.goto (-32), 3) := by decide +kernel
theorem dX10_distance_42 : decode cX10_distance 42 = .ok (.iconst (-1), 1) := by decide +kernel
theorem dX10_distance_43 : decode cX10_distance 43 = .ok (.ireturn, 1) := by decide +kernel
theorem dX10_firstStep_0 : decode cX10_firstStep 0 = .ok (.aload_n 0, 1) := by decide +kernel
theorem dX10_firstStep_1 : decode cX10_firstStep 1 = .ok (.iload_n 1, 1) := by decide +kernel
theorem dX10_firstStep_2 : decode cX10_firstStep 2 = .ok (.iload_n 2, 1) := by decide +kernel
theorem dX10_firstStep_3 : decode cX10_firstStep 3 = .ok (.invokevirtual 84, 3) := by decide +kernel
theorem dX10_firstStep_6 : decode cX10_firstStep 6 = .ok (.istore_n 3, 1) := by decide +kernel
theorem dX10_firstStep_7 : decode cX10_firstStep 7 = .ok (.iload_n 3, 1) := by decide +kernel
theorem dX10_firstStep_8 : decode cX10_firstStep 8 = .ok (.iconst 1, 1) := by decide +kernel
theorem dX10_firstStep_9 : decode cX10_firstStep 9 = .ok (.if_icmp .ge 5, 3) := by decide +kernel
theorem dX10_firstStep_12 : decode cX10_firstStep 12 = .ok (.iconst (-1), 1) := by decide +kernel
theorem dX10_firstStep_13 : decode cX10_firstStep 13 = .ok (.ireturn, 1) := by decide +kernel
theorem dX10_firstStep_14 : decode cX10_firstStep 14 = .ok (.iconst 0, 1) := by decide +kernel
theorem dX10_firstStep_15 : decode cX10_firstStep 15 = .ok (.istore 4, 2) := by decide +kernel
theorem dX10_firstStep_17 : decode cX10_firstStep 17 = .ok (.iload 4, 2) := by decide +kernel
theorem dX10_firstStep_19 : decode cX10_firstStep 19 = .ok (.aload_n 0, 1) := by decide +kernel
theorem dX10_firstStep_20 : decode cX10_firstStep 20 = .ok (.getfield 31, 3) := by decide +kernel
theorem dX10_firstStep_23 : decode cX10_firstStep 23 = .ok (.getfield 56, 3) := by decide +kernel
theorem dX10_firstStep_26 : decode cX10_firstStep 26 = .ok (.if_icmp .ge 39, 3) := by decide +kernel
theorem dX10_firstStep_29 : decode cX10_firstStep 29 = .ok (.aload_n 0, 1) := by decide +kernel
theorem dX10_firstStep_30 : decode cX10_firstStep 30 = .ok (.getfield 22, 3) := by decide +kernel
theorem dX10_firstStep_33 : decode cX10_firstStep 33 = .ok (.iload_n 1, 1) := by decide +kernel
theorem dX10_firstStep_34 : decode cX10_firstStep 34 = .ok (.iaload, 1) := by decide +kernel
theorem dX10_firstStep_35 : decode cX10_firstStep 35 = .ok (.iload 4, 2) := by decide +kernel
theorem dX10_firstStep_37 : decode cX10_firstStep 37 = .ok (.invokestatic 69, 3) := by decide +kernel
theorem dX10_firstStep_40 : decode cX10_firstStep 40 = .ok (.ifCond .eq 19, 3) := by decide +kernel
theorem dX10_firstStep_43 : decode cX10_firstStep 43 = .ok (.aload_n 0, 1) := by decide +kernel
theorem dX10_firstStep_44 : decode cX10_firstStep 44 = .ok (.iload 4, 2) := by decide +kernel
theorem dX10_firstStep_46 : decode cX10_firstStep 46 = .ok (.iload_n 2, 1) := by decide +kernel
theorem dX10_firstStep_47 : decode cX10_firstStep 47 = .ok (.invokevirtual 84, 3) := by decide +kernel
theorem dX10_firstStep_50 : decode cX10_firstStep 50 = .ok (.iload_n 3, 1) := by decide +kernel
theorem dX10_firstStep_51 : decode cX10_firstStep 51 = .ok (.iconst 1, 1) := by decide +kernel
theorem dX10_firstStep_52 : decode cX10_firstStep 52 = .ok (.isub, 1) := by decide +kernel
theorem dX10_firstStep_53 : decode cX10_firstStep 53 = .ok (.if_icmp .ne 6, 3) := by decide +kernel
theorem dX10_firstStep_56 : decode cX10_firstStep 56 = .ok (.iload 4, 2) := by decide +kernel
theorem dX10_firstStep_58 : decode cX10_firstStep 58 = .ok (.ireturn, 1) := by decide +kernel
theorem dX10_firstStep_59 : decode cX10_firstStep 59 = .ok (.iinc 4 1, 3) := by decide +kernel
theorem dX10_firstStep_62 : decode cX10_firstStep 62 = .ok (.goto (-45), 3) := by decide +kernel
theorem dX10_firstStep_65 : decode cX10_firstStep 65 = .ok (.iconst (-1), 1) := by decide +kernel
theorem dX10_firstStep_66 : decode cX10_firstStep 66 = .ok (.ireturn, 1) := by decide +kernel
theorem dX10_linkedTo_0 : decode cX10_linkedTo 0 = .ok (.aload_n 0, 1) := by decide +kernel
theorem dX10_linkedTo_1 : decode cX10_linkedTo 1 = .ok (.getfield 31, 3) := by decide +kernel
theorem dX10_linkedTo_4 : decode cX10_linkedTo 4 = .ok (.getfield 60, 3) := by decide +kernel
theorem dX10_linkedTo_7 : decode cX10_linkedTo 7 = .ok (.iconst 0, 1) := by decide +kernel
theorem dX10_linkedTo_8 : decode cX10_linkedTo 8 = .ok (.aload_n 0, 1) := by decide +kernel
theorem dX10_linkedTo_9 : decode cX10_linkedTo 9 = .ok (.getfield 22, 3) := by decide +kernel
theorem dX10_linkedTo_12 : decode cX10_linkedTo 12 = .ok (.iconst 0, 1) := by decide +kernel
theorem dX10_linkedTo_13 : decode cX10_linkedTo 13 = .ok (.bipush 6, 2) := by decide +kernel
theorem dX10_linkedTo_15 : decode cX10_linkedTo 15 = .ok (.invokestatic 88, 3) := by decide +kernel
theorem dX10_linkedTo_18 : decode cX10_linkedTo 18 = .ok (.aload_n 0, 1) := by decide +kernel
theorem dX10_linkedTo_19 : decode cX10_linkedTo 19 = .ok (.iconst 1, 1) := by decide +kernel
theorem dX10_linkedTo_20 : decode cX10_linkedTo 20 = .ok (.iload_n 1, 1) := by decide +kernel
theorem dX10_linkedTo_21 : decode cX10_linkedTo 21 = .ok (.ishl, 1) := by decide +kernel
theorem dX10_linkedTo_22 : decode cX10_linkedTo 22 = .ok (.invokevirtual 81, 3) := by decide +kernel
theorem dX10_linkedTo_25 : decode cX10_linkedTo 25 = .ok (.ireturn, 1) := by decide +kernel
theorem dX10_findSoonest_0 : decode cX10_findSoonest 0 = .ok (.iconst 1, 1) := by decide +kernel
theorem dX10_findSoonest_1 : decode cX10_findSoonest 1 = .ok (.aload_n 1, 1) := by decide +kernel
theorem dX10_findSoonest_2 : decode cX10_findSoonest 2 = .ok (.getfield 66, 3) := by decide +kernel
theorem dX10_findSoonest_5 : decode cX10_findSoonest 5 = .ok (.iload_n 2, 1) := by decide +kernel
theorem dX10_findSoonest_6 : decode cX10_findSoonest 6 = .ok (.iaload, 1) := by decide +kernel
theorem dX10_findSoonest_7 : decode cX10_findSoonest 7 = .ok (.ishl, 1) := by decide +kernel
theorem dX10_findSoonest_8 : decode cX10_findSoonest 8 = .ok (.istore 4, 2) := by decide +kernel
theorem dX10_findSoonest_10 : decode cX10_findSoonest 10 = .ok (.iload_n 3, 1) := by decide +kernel
theorem dX10_findSoonest_11 : decode cX10_findSoonest 11 = .ok (.aload_n 0, 1) := by decide +kernel
theorem dX10_findSoonest_12 : decode cX10_findSoonest 12 = .ok (.aload_n 1, 1) := by decide +kernel
theorem dX10_findSoonest_13 : decode cX10_findSoonest 13 = .ok (.getfield 66, 3) := by decide +kernel
theorem dX10_findSoonest_16 : decode cX10_findSoonest 16 = .ok (.iload_n 2, 1) := by decide +kernel
theorem dX10_findSoonest_17 : decode cX10_findSoonest 17 = .ok (.iaload, 1) := by decide +kernel
theorem dX10_findSoonest_18 : decode cX10_findSoonest 18 = .ok (.invokevirtual 94, 3) := by decide +kernel
theorem dX10_findSoonest_21 : decode cX10_findSoonest 21 = .ok (.iand, 1) := by decide +kernel
theorem dX10_findSoonest_22 : decode cX10_findSoonest 22 = .ok (.istore 5, 2) := by decide +kernel
theorem dX10_findSoonest_24 : decode cX10_findSoonest 24 = .ok (.aload_n 0, 1) := by decide +kernel
theorem dX10_findSoonest_25 : decode cX10_findSoonest 25 = .ok (.getfield 25, 3) := by decide +kernel
theorem dX10_findSoonest_28 : decode cX10_findSoonest 28 = .ok (.iconst (-1), 1) := by decide +kernel
theorem dX10_findSoonest_29 : decode cX10_findSoonest 29 = .ok (.invokestatic 39, 3) := by decide +kernel
theorem dX10_findSoonest_32 : decode cX10_findSoonest 32 = .ok (.aload_n 0, 1) := by decide +kernel
theorem dX10_findSoonest_33 : decode cX10_findSoonest 33 = .ok (.getfield 12, 3) := by decide +kernel
theorem dX10_findSoonest_36 : decode cX10_findSoonest 36 = .ok (.aload_n 1, 1) := by decide +kernel
theorem dX10_findSoonest_37 : decode cX10_findSoonest 37 = .ok (.invokevirtual 97, 3) := by decide +kernel
theorem dX10_findSoonest_40 : decode cX10_findSoonest 40 = .ok (.iconst 0, 1) := by decide +kernel
theorem dX10_findSoonest_41 : decode cX10_findSoonest 41 = .ok (.istore 6, 2) := by decide +kernel
theorem dX10_findSoonest_43 : decode cX10_findSoonest 43 = .ok (.iload 6, 2) := by decide +kernel
theorem dX10_findSoonest_45 : decode cX10_findSoonest 45 = .ok (.bipush 99, 2) := by decide +kernel
theorem dX10_findSoonest_47 : decode cX10_findSoonest 47 = .ok (.if_icmp .gt 100, 3) := by decide +kernel
theorem dX10_findSoonest_50 : decode cX10_findSoonest 50 = .ok (.aload_n 0, 1) := by decide +kernel
theorem dX10_findSoonest_51 : decode cX10_findSoonest 51 = .ok (.aload_n 0, 1) := by decide +kernel
theorem dX10_findSoonest_52 : decode cX10_findSoonest 52 = .ok (.getfield 12, 3) := by decide +kernel
theorem dX10_findSoonest_55 : decode cX10_findSoonest 55 = .ok (.iload_n 2, 1) := by decide +kernel
theorem dX10_findSoonest_56 : decode cX10_findSoonest 56 = .ok (.iconst 0, 1) := by decide +kernel
theorem dX10_findSoonest_57 : decode cX10_findSoonest 57 = .ok (.invokevirtual 77, 3) := by decide +kernel
theorem dX10_findSoonest_60 : decode cX10_findSoonest 60 = .ok (.aload_n 0, 1) := by decide +kernel
theorem dX10_findSoonest_61 : decode cX10_findSoonest 61 = .ok (.iload 4, 2) := by decide +kernel
theorem dX10_findSoonest_63 : decode cX10_findSoonest 63 = .ok (.invokevirtual 81, 3) := by decide +kernel
theorem dX10_findSoonest_66 : decode cX10_findSoonest 66 = .ok (.istore 4, 2) := by decide +kernel
theorem dX10_findSoonest_68 : decode cX10_findSoonest 68 = .ok (.iconst 0, 1) := by decide +kernel
theorem dX10_findSoonest_69 : decode cX10_findSoonest 69 = .ok (.istore 7, 2) := by decide +kernel
theorem dX10_findSoonest_71 : decode cX10_findSoonest 71 = .ok (.iload 7, 2) := by decide +kernel
theorem dX10_findSoonest_73 : decode cX10_findSoonest 73 = .ok (.aload_n 0, 1) := by decide +kernel
theorem dX10_findSoonest_74 : decode cX10_findSoonest 74 = .ok (.getfield 31, 3) := by decide +kernel
theorem dX10_findSoonest_77 : decode cX10_findSoonest 77 = .ok (.getfield 56, 3) := by decide +kernel
theorem dX10_findSoonest_80 : decode cX10_findSoonest 80 = .ok (.if_icmp .ge 39, 3) := by decide +kernel
theorem dX10_findSoonest_83 : decode cX10_findSoonest 83 = .ok (.aload_n 0, 1) := by decide +kernel
theorem dX10_findSoonest_84 : decode cX10_findSoonest 84 = .ok (.getfield 25, 3) := by decide +kernel
theorem dX10_findSoonest_87 : decode cX10_findSoonest 87 = .ok (.iload 7, 2) := by decide +kernel
theorem dX10_findSoonest_89 : decode cX10_findSoonest 89 = .ok (.iaload, 1) := by decide +kernel
theorem dX10_findSoonest_90 : decode cX10_findSoonest 90 = .ok (.iconst (-1), 1) := by decide +kernel
theorem dX10_findSoonest_91 : decode cX10_findSoonest 91 = .ok (.if_icmp .ne 22, 3) := by decide +kernel
theorem dX10_findSoonest_94 : decode cX10_findSoonest 94 = .ok (.iload 4, 2) := by decide +kernel
theorem dX10_findSoonest_96 : decode cX10_findSoonest 96 = .ok (.iload 7, 2) := by decide +kernel
theorem dX10_findSoonest_98 : decode cX10_findSoonest 98 = .ok (.invokestatic 69, 3) := by decide +kernel
theorem dX10_findSoonest_101 : decode cX10_findSoonest 101 = .ok (.ifCond .eq 12, 3) := by decide +kernel
theorem dX10_findSoonest_104 : decode cX10_findSoonest 104 = .ok (.aload_n 0, 1) := by decide +kernel
theorem dX10_findSoonest_105 : decode cX10_findSoonest 105 = .ok (.getfield 25, 3) := by decide +kernel
theorem dX10_findSoonest_108 : decode cX10_findSoonest 108 = .ok (.iload 7, 2) := by decide +kernel
theorem dX10_findSoonest_110 : decode cX10_findSoonest 110 = .ok (.iload 6, 2) := by decide +kernel
theorem dX10_findSoonest_112 : decode cX10_findSoonest 112 = .ok (.iastore, 1) := by decide +kernel
theorem dX10_findSoonest_113 : decode cX10_findSoonest 113 = .ok (.iinc 7 1, 3) := by decide +kernel
theorem dX10_findSoonest_116 : decode cX10_findSoonest 116 = .ok (.goto (-45), 3) := by decide +kernel
theorem dX10_findSoonest_119 : decode cX10_findSoonest 119 = .ok (.iload 5, 2) := by decide +kernel
theorem dX10_findSoonest_121 : decode cX10_findSoonest 121 = .ok (.iload 4, 2) := by decide +kernel
theorem dX10_findSoonest_123 : decode cX10_findSoonest 123 = .ok (.iconst (-1), 1) := by decide +kernel
theorem dX10_findSoonest_124 : decode cX10_findSoonest 124 = .ok (.ixor, 1) := by decide +kernel
theorem dX10_findSoonest_125 : decode cX10_findSoonest 125 = .ok (.iand, 1) := by decide +kernel
theorem dX10_findSoonest_126 : decode cX10_findSoonest 126 = .ok (.ifCond .ne 4, 3) := by decide +kernel
theorem dX10_findSoonest_129 : decode cX10_findSoonest 129 = .ok (.return_, 1) := by decide +kernel
theorem dX10_findSoonest_130 : decode cX10_findSoonest 130 = .ok (.aload_n 0, 1) := by decide +kernel
theorem dX10_findSoonest_131 : decode cX10_findSoonest 131 = .ok (.getfield 35, 3) := by decide +kernel
theorem dX10_findSoonest_134 : decode cX10_findSoonest 134 = .ok (.aload_n 0, 1) := by decide +kernel
theorem dX10_findSoonest_135 : decode cX10_findSoonest 135 = .ok (.getfield 12, 3) := by decide +kernel
theorem dX10_findSoonest_138 : decode cX10_findSoonest 138 = .ok (.invokevirtual 101, 3) := by decide +kernel
theorem dX10_findSoonest_141 : decode cX10_findSoonest 141 = .ok (.iinc 6 1, 3) := by decide +kernel
theorem dX10_findSoonest_144 : decode cX10_findSoonest 144 = .ok (.goto (-101), 3) := by decide +kernel
theorem dX10_findSoonest_147 : decode cX10_findSoonest 147 = .ok (.return_, 1) := by decide +kernel
theorem dX10_waitForSoonest_0 : decode cX10_waitForSoonest 0 = .ok (.iconst 0, 1) := by decide +kernel
theorem dX10_waitForSoonest_1 : decode cX10_waitForSoonest 1 = .ok (.istore_n 1, 1) := by decide +kernel
theorem dX10_waitForSoonest_2 : decode cX10_waitForSoonest 2 = .ok (.iload_n 1, 1) := by decide +kernel
theorem dX10_waitForSoonest_3 : decode cX10_waitForSoonest 3 = .ok (.aload_n 0, 1) := by decide +kernel
theorem dX10_waitForSoonest_4 : decode cX10_waitForSoonest 4 = .ok (.getfield 31, 3) := by decide +kernel
theorem dX10_waitForSoonest_7 : decode cX10_waitForSoonest 7 = .ok (.getfield 56, 3) := by decide +kernel
theorem dX10_waitForSoonest_10 : decode cX10_waitForSoonest 10 = .ok (.if_icmp .ge 64, 3) := by decide +kernel
theorem dX10_waitForSoonest_13 : decode cX10_waitForSoonest 13 = .ok (.aload_n 0, 1) := by decide +kernel
theorem dX10_waitForSoonest_14 : decode cX10_waitForSoonest 14 = .ok (.getfield 28, 3) := by decide +kernel
theorem dX10_waitForSoonest_17 : decode cX10_waitForSoonest 17 = .ok (.iload_n 1, 1) := by decide +kernel
theorem dX10_waitForSoonest_18 : decode cX10_waitForSoonest 18 = .ok (.iaload, 1) := by decide +kernel
theorem dX10_waitForSoonest_19 : decode cX10_waitForSoonest 19 = .ok (.iconst (-1), 1) := by decide +kernel
theorem dX10_waitForSoonest_20 : decode cX10_waitForSoonest 20 = .ok (.if_icmp .eq 13, 3) := by decide +kernel
theorem dX10_waitForSoonest_23 : decode cX10_waitForSoonest 23 = .ok (.aload_n 0, 1) := by decide +kernel
theorem dX10_waitForSoonest_24 : decode cX10_waitForSoonest 24 = .ok (.getfield 25, 3) := by decide +kernel
theorem dX10_waitForSoonest_27 : decode cX10_waitForSoonest 27 = .ok (.iload_n 1, 1) := by decide +kernel
theorem dX10_waitForSoonest_28 : decode cX10_waitForSoonest 28 = .ok (.iaload, 1) := by decide +kernel
theorem dX10_waitForSoonest_29 : decode cX10_waitForSoonest 29 = .ok (.iconst (-1), 1) := by decide +kernel
theorem dX10_waitForSoonest_30 : decode cX10_waitForSoonest 30 = .ok (.if_icmp .ne 7, 3) := by decide +kernel
theorem dX10_waitForSoonest_33 : decode cX10_waitForSoonest 33 = .ok (.iconst 1, 1) := by decide +kernel
theorem dX10_waitForSoonest_34 : decode cX10_waitForSoonest 34 = .ok (.goto 4, 3) := by decide +kernel
theorem dX10_waitForSoonest_37 : decode cX10_waitForSoonest 37 = .ok (.iconst 0, 1) := by decide +kernel
theorem dX10_waitForSoonest_38 : decode cX10_waitForSoonest 38 = .ok (.istore_n 2, 1) := by decide +kernel
theorem dX10_waitForSoonest_39 : decode cX10_waitForSoonest 39 = .ok (.aload_n 0, 1) := by decide +kernel
theorem dX10_waitForSoonest_40 : decode cX10_waitForSoonest 40 = .ok (.getfield 28, 3) := by decide +kernel
theorem dX10_waitForSoonest_43 : decode cX10_waitForSoonest 43 = .ok (.iload_n 1, 1) := by decide +kernel
theorem dX10_waitForSoonest_44 : decode cX10_waitForSoonest 44 = .ok (.iload_n 2, 1) := by decide +kernel
theorem dX10_waitForSoonest_45 : decode cX10_waitForSoonest 45 = .ok (.ifCond .eq 7, 3) := by decide +kernel
theorem dX10_waitForSoonest_48 : decode cX10_waitForSoonest 48 = .ok (.iconst (-1), 1) := by decide +kernel
theorem dX10_waitForSoonest_49 : decode cX10_waitForSoonest 49 = .ok (.goto 18, 3) := by decide +kernel
theorem dX10_waitForSoonest_52 : decode cX10_waitForSoonest 52 = .ok (.aload_n 0, 1) := by decide +kernel
theorem dX10_waitForSoonest_53 : decode cX10_waitForSoonest 53 = .ok (.getfield 28, 3) := by decide +kernel
theorem dX10_waitForSoonest_56 : decode cX10_waitForSoonest 56 = .ok (.iload_n 1, 1) := by decide +kernel
theorem dX10_waitForSoonest_57 : decode cX10_waitForSoonest 57 = .ok (.iaload, 1) := by decide +kernel
theorem dX10_waitForSoonest_58 : decode cX10_waitForSoonest 58 = .ok (.aload_n 0, 1) := by decide +kernel
theorem dX10_waitForSoonest_59 : decode cX10_waitForSoonest 59 = .ok (.getfield 25, 3) := by decide +kernel
theorem dX10_waitForSoonest_62 : decode cX10_waitForSoonest 62 = .ok (.iload_n 1, 1) := by decide +kernel
theorem dX10_waitForSoonest_63 : decode cX10_waitForSoonest 63 = .ok (.iaload, 1) := by decide +kernel
theorem dX10_waitForSoonest_64 : decode cX10_waitForSoonest 64 = .ok (.invokestatic 104, 3) := by decide +kernel
theorem dX10_waitForSoonest_67 : decode cX10_waitForSoonest 67 = .ok (.iastore, 1) := by decide +kernel
theorem dX10_waitForSoonest_68 : decode cX10_waitForSoonest 68 = .ok (.iinc 1 1, 3) := by decide +kernel
theorem dX10_waitForSoonest_71 : decode cX10_waitForSoonest 71 = .ok (.goto (-69), 3) := by decide +kernel
theorem dX10_waitForSoonest_74 : decode cX10_waitForSoonest 74 = .ok (.return_, 1) := by decide +kernel
theorem dX10_soonestRound_0 : decode cX10_soonestRound 0 = .ok (.aload_n 0, 1) := by decide +kernel
theorem dX10_soonestRound_1 : decode cX10_soonestRound 1 = .ok (.getfield 31, 3) := by decide +kernel
theorem dX10_soonestRound_4 : decode cX10_soonestRound 4 = .ok (.invokevirtual 109, 3) := by decide +kernel
theorem dX10_soonestRound_7 : decode cX10_soonestRound 7 = .ok (.istore_n 3, 1) := by decide +kernel
theorem dX10_soonestRound_8 : decode cX10_soonestRound 8 = .ok (.aload_n 1, 1) := by decide +kernel
theorem dX10_soonestRound_9 : decode cX10_soonestRound 9 = .ok (.getfield 113, 3) := by decide +kernel
theorem dX10_soonestRound_12 : decode cX10_soonestRound 12 = .ok (.iload_n 2, 1) := by decide +kernel
theorem dX10_soonestRound_13 : decode cX10_soonestRound 13 = .ok (.iaload, 1) := by decide +kernel
theorem dX10_soonestRound_14 : decode cX10_soonestRound 14 = .ok (.iload_n 3, 1) := by decide +kernel
theorem dX10_soonestRound_15 : decode cX10_soonestRound 15 = .ok (.iand, 1) := by decide +kernel
theorem dX10_soonestRound_16 : decode cX10_soonestRound 16 = .ok (.istore 4, 2) := by decide +kernel
theorem dX10_soonestRound_18 : decode cX10_soonestRound 18 = .ok (.iload 4, 2) := by decide +kernel
theorem dX10_soonestRound_20 : decode cX10_soonestRound 20 = .ok (.aload_n 0, 1) := by decide +kernel
theorem dX10_soonestRound_21 : decode cX10_soonestRound 21 = .ok (.aload_n 1, 1) := by decide +kernel
theorem dX10_soonestRound_22 : decode cX10_soonestRound 22 = .ok (.getfield 66, 3) := by decide +kernel
theorem dX10_soonestRound_25 : decode cX10_soonestRound 25 = .ok (.iload_n 2, 1) := by decide +kernel
theorem dX10_soonestRound_26 : decode cX10_soonestRound 26 = .ok (.iaload, 1) := by decide +kernel
theorem dX10_soonestRound_27 : decode cX10_soonestRound 27 = .ok (.invokevirtual 94, 3) := by decide +kernel
theorem dX10_soonestRound_30 : decode cX10_soonestRound 30 = .ok (.ior, 1) := by decide +kernel
theorem dX10_soonestRound_31 : decode cX10_soonestRound 31 = .ok (.iload_n 3, 1) := by decide +kernel
theorem dX10_soonestRound_32 : decode cX10_soonestRound 32 = .ok (.if_icmp .eq 5, 3) := by decide +kernel
theorem dX10_soonestRound_35 : decode cX10_soonestRound 35 = .ok (.iconst (-1), 1) := by decide +kernel
theorem dX10_soonestRound_36 : decode cX10_soonestRound 36 = .ok (.ireturn, 1) := by decide +kernel
theorem dX10_soonestRound_37 : decode cX10_soonestRound 37 = .ok (.aload_n 0, 1) := by decide +kernel
theorem dX10_soonestRound_38 : decode cX10_soonestRound 38 = .ok (.getfield 18, 3) := by decide +kernel
theorem dX10_soonestRound_41 : decode cX10_soonestRound 41 = .ok (.iconst 0, 1) := by decide +kernel
theorem dX10_soonestRound_42 : decode cX10_soonestRound 42 = .ok (.invokestatic 39, 3) := by decide +kernel
theorem dX10_soonestRound_45 : decode cX10_soonestRound 45 = .ok (.aload_n 0, 1) := by decide +kernel
theorem dX10_soonestRound_46 : decode cX10_soonestRound 46 = .ok (.getfield 18, 3) := by decide +kernel
theorem dX10_soonestRound_49 : decode cX10_soonestRound 49 = .ok (.iload 4, 2) := by decide +kernel
theorem dX10_soonestRound_51 : decode cX10_soonestRound 51 = .ok (.iconst 1, 1) := by decide +kernel
theorem dX10_soonestRound_52 : decode cX10_soonestRound 52 = .ok (.aload_n 1, 1) := by decide +kernel
theorem dX10_soonestRound_53 : decode cX10_soonestRound 53 = .ok (.getfield 66, 3) := by decide +kernel
theorem dX10_soonestRound_56 : decode cX10_soonestRound 56 = .ok (.iload_n 2, 1) := by decide +kernel
theorem dX10_soonestRound_57 : decode cX10_soonestRound 57 = .ok (.iaload, 1) := by decide +kernel
theorem dX10_soonestRound_58 : decode cX10_soonestRound 58 = .ok (.ishl, 1) := by decide +kernel
theorem dX10_soonestRound_59 : decode cX10_soonestRound 59 = .ok (.iastore, 1) := by decide +kernel
theorem dX10_soonestRound_60 : decode cX10_soonestRound 60 = .ok (.aload_n 0, 1) := by decide +kernel
theorem dX10_soonestRound_61 : decode cX10_soonestRound 61 = .ok (.getfield 12, 3) := by decide +kernel
theorem dX10_soonestRound_64 : decode cX10_soonestRound 64 = .ok (.aload_n 1, 1) := by decide +kernel
theorem dX10_soonestRound_65 : decode cX10_soonestRound 65 = .ok (.invokevirtual 97, 3) := by decide +kernel
theorem dX10_soonestRound_68 : decode cX10_soonestRound 68 = .ok (.iconst 0, 1) := by decide +kernel
theorem dX10_soonestRound_69 : decode cX10_soonestRound 69 = .ok (.istore 5, 2) := by decide +kernel
theorem dX10_soonestRound_71 : decode cX10_soonestRound 71 = .ok (.iload 5, 2) := by decide +kernel
theorem dX10_soonestRound_73 : decode cX10_soonestRound 73 = .ok (.bipush 99, 2) := by decide +kernel
theorem dX10_soonestRound_75 : decode cX10_soonestRound 75 = .ok (.if_icmp .gt 64, 3) := by decide +kernel
theorem dX10_soonestRound_78 : decode cX10_soonestRound 78 = .ok (.aload_n 0, 1) := by decide +kernel
theorem dX10_soonestRound_79 : decode cX10_soonestRound 79 = .ok (.aload_n 0, 1) := by decide +kernel
theorem dX10_soonestRound_80 : decode cX10_soonestRound 80 = .ok (.getfield 12, 3) := by decide +kernel
theorem dX10_soonestRound_83 : decode cX10_soonestRound 83 = .ok (.iload_n 2, 1) := by decide +kernel
theorem dX10_soonestRound_84 : decode cX10_soonestRound 84 = .ok (.iconst 0, 1) := by decide +kernel
theorem dX10_soonestRound_85 : decode cX10_soonestRound 85 = .ok (.invokevirtual 77, 3) := by decide +kernel
theorem dX10_soonestRound_88 : decode cX10_soonestRound 88 = .ok (.iload 4, 2) := by decide +kernel
theorem dX10_soonestRound_90 : decode cX10_soonestRound 90 = .ok (.istore 6, 2) := by decide +kernel
theorem dX10_soonestRound_92 : decode cX10_soonestRound 92 = .ok (.iload 6, 2) := by decide +kernel
theorem dX10_soonestRound_94 : decode cX10_soonestRound 94 = .ok (.iload_n 3, 1) := by decide +kernel
theorem dX10_soonestRound_95 : decode cX10_soonestRound 95 = .ok (.if_icmp .gt 15, 3) := by decide +kernel
theorem dX10_soonestRound_98 : decode cX10_soonestRound 98 = .ok (.aload_n 0, 1) := by decide +kernel
theorem dX10_soonestRound_99 : decode cX10_soonestRound 99 = .ok (.iload 6, 2) := by decide +kernel
theorem dX10_soonestRound_101 : decode cX10_soonestRound 101 = .ok (.invokevirtual 116, 3) := by decide +kernel
theorem dX10_soonestRound_104 : decode cX10_soonestRound 104 = .ok (.iinc 6 1, 3) := by decide +kernel
theorem dX10_soonestRound_107 : decode cX10_soonestRound 107 = .ok (.goto (-15), 3) := by decide +kernel
theorem dX10_soonestRound_110 : decode cX10_soonestRound 110 = .ok (.aload_n 0, 1) := by decide +kernel
theorem dX10_soonestRound_111 : decode cX10_soonestRound 111 = .ok (.getfield 18, 3) := by decide +kernel
theorem dX10_soonestRound_114 : decode cX10_soonestRound 114 = .ok (.iload_n 3, 1) := by decide +kernel
theorem dX10_soonestRound_115 : decode cX10_soonestRound 115 = .ok (.iaload, 1) := by decide +kernel
theorem dX10_soonestRound_116 : decode cX10_soonestRound 116 = .ok (.ifCond .eq 6, 3) := by decide +kernel
theorem dX10_soonestRound_119 : decode cX10_soonestRound 119 = .ok (.iload 5, 2) := by decide +kernel
theorem dX10_soonestRound_121 : decode cX10_soonestRound 121 = .ok (.ireturn, 1) := by decide +kernel
theorem dX10_soonestRound_122 : decode cX10_soonestRound 122 = .ok (.aload_n 0, 1) := by decide +kernel
theorem dX10_soonestRound_123 : decode cX10_soonestRound 123 = .ok (.getfield 35, 3) := by decide +kernel
theorem dX10_soonestRound_126 : decode cX10_soonestRound 126 = .ok (.aload_n 0, 1) := by decide +kernel
theorem dX10_soonestRound_127 : decode cX10_soonestRound 127 = .ok (.getfield 12, 3) := by decide +kernel
theorem dX10_soonestRound_130 : decode cX10_soonestRound 130 = .ok (.invokevirtual 101, 3) := by decide +kernel
theorem dX10_soonestRound_133 : decode cX10_soonestRound 133 = .ok (.iinc 5 1, 3) := by decide +kernel
theorem dX10_soonestRound_136 : decode cX10_soonestRound 136 = .ok (.goto (-65), 3) := by decide +kernel
theorem dX10_soonestRound_139 : decode cX10_soonestRound 139 = .ok (.iconst (-1), 1) := by decide +kernel
theorem dX10_soonestRound_140 : decode cX10_soonestRound 140 = .ok (.ireturn, 1) := by decide +kernel
theorem dX10_wander_0 : decode cX10_wander 0 = .ok (.aload_n 0, 1) := by decide +kernel
theorem dX10_wander_1 : decode cX10_wander 1 = .ok (.getfield 18, 3) := by decide +kernel
theorem dX10_wander_4 : decode cX10_wander 4 = .ok (.iload_n 1, 1) := by decide +kernel
theorem dX10_wander_5 : decode cX10_wander 5 = .ok (.iaload, 1) := by decide +kernel
theorem dX10_wander_6 : decode cX10_wander 6 = .ok (.ifCond .ne 4, 3) := by decide +kernel
theorem dX10_wander_9 : decode cX10_wander 9 = .ok (.return_, 1) := by decide +kernel
theorem dX10_wander_10 : decode cX10_wander 10 = .ok (.aload_n 0, 1) := by decide +kernel
theorem dX10_wander_11 : decode cX10_wander 11 = .ok (.getfield 18, 3) := by decide +kernel
theorem dX10_wander_14 : decode cX10_wander 14 = .ok (.iload_n 1, 1) := by decide +kernel
theorem dX10_wander_15 : decode cX10_wander 15 = .ok (.iaload, 1) := by decide +kernel
theorem dX10_wander_16 : decode cX10_wander 16 = .ok (.istore_n 2, 1) := by decide +kernel
theorem dX10_wander_17 : decode cX10_wander 17 = .ok (.iconst 1, 1) := by decide +kernel
theorem dX10_wander_18 : decode cX10_wander 18 = .ok (.istore_n 3, 1) := by decide +kernel
theorem dX10_wander_19 : decode cX10_wander 19 = .ok (.iload_n 3, 1) := by decide +kernel
theorem dX10_wander_20 : decode cX10_wander 20 = .ok (.aload_n 0, 1) := by decide +kernel
theorem dX10_wander_21 : decode cX10_wander 21 = .ok (.getfield 31, 3) := by decide +kernel
theorem dX10_wander_24 : decode cX10_wander 24 = .ok (.getfield 56, 3) := by decide +kernel
theorem dX10_wander_27 : decode cX10_wander 27 = .ok (.if_icmp .ge 19, 3) := by decide +kernel
theorem dX10_wander_30 : decode cX10_wander 30 = .ok (.iload_n 2, 1) := by decide +kernel
theorem dX10_wander_31 : decode cX10_wander 31 = .ok (.aload_n 0, 1) := by decide +kernel
theorem dX10_wander_32 : decode cX10_wander 32 = .ok (.iload_n 2, 1) := by decide +kernel
theorem dX10_wander_33 : decode cX10_wander 33 = .ok (.invokevirtual 73, 3) := by decide +kernel
theorem dX10_wander_36 : decode cX10_wander 36 = .ok (.iload_n 1, 1) := by decide +kernel
theorem dX10_wander_37 : decode cX10_wander 37 = .ok (.iand, 1) := by decide +kernel
theorem dX10_wander_38 : decode cX10_wander 38 = .ok (.ior, 1) := by decide +kernel
theorem dX10_wander_39 : decode cX10_wander 39 = .ok (.istore_n 2, 1) := by decide +kernel
theorem dX10_wander_40 : decode cX10_wander 40 = .ok (.iinc 3 1, 3) := by decide +kernel
theorem dX10_wander_43 : decode cX10_wander 43 = .ok (.goto (-24), 3) := by decide +kernel
theorem dX10_wander_46 : decode cX10_wander 46 = .ok (.aload_n 0, 1) := by decide +kernel
theorem dX10_wander_47 : decode cX10_wander 47 = .ok (.getfield 18, 3) := by decide +kernel
theorem dX10_wander_50 : decode cX10_wander 50 = .ok (.iload_n 1, 1) := by decide +kernel
theorem dX10_wander_51 : decode cX10_wander 51 = .ok (.iload_n 2, 1) := by decide +kernel
theorem dX10_wander_52 : decode cX10_wander 52 = .ok (.iastore, 1) := by decide +kernel
theorem dX10_wander_53 : decode cX10_wander 53 = .ok (.aload_n 0, 1) := by decide +kernel
theorem dX10_wander_54 : decode cX10_wander 54 = .ok (.iload_n 2, 1) := by decide +kernel
theorem dX10_wander_55 : decode cX10_wander 55 = .ok (.invokevirtual 73, 3) := by decide +kernel
theorem dX10_wander_58 : decode cX10_wander 58 = .ok (.iload_n 1, 1) := by decide +kernel
theorem dX10_wander_59 : decode cX10_wander 59 = .ok (.iconst (-1), 1) := by decide +kernel
theorem dX10_wander_60 : decode cX10_wander 60 = .ok (.ixor, 1) := by decide +kernel
theorem dX10_wander_61 : decode cX10_wander 61 = .ok (.iand, 1) := by decide +kernel
theorem dX10_wander_62 : decode cX10_wander 62 = .ok (.istore_n 3, 1) := by decide +kernel
theorem dX10_wander_63 : decode cX10_wander 63 = .ok (.iconst 0, 1) := by decide +kernel
theorem dX10_wander_64 : decode cX10_wander 64 = .ok (.istore 4, 2) := by decide +kernel
theorem dX10_wander_66 : decode cX10_wander 66 = .ok (.iload 4, 2) := by decide +kernel
theorem dX10_wander_68 : decode cX10_wander 68 = .ok (.aload_n 0, 1) := by decide +kernel
theorem dX10_wander_69 : decode cX10_wander 69 = .ok (.getfield 31, 3) := by decide +kernel
theorem dX10_wander_72 : decode cX10_wander 72 = .ok (.getfield 56, 3) := by decide +kernel
theorem dX10_wander_75 : decode cX10_wander 75 = .ok (.if_icmp .ge 36, 3) := by decide +kernel
theorem dX10_wander_78 : decode cX10_wander 78 = .ok (.iload_n 3, 1) := by decide +kernel
theorem dX10_wander_79 : decode cX10_wander 79 = .ok (.iload 4, 2) := by decide +kernel
theorem dX10_wander_81 : decode cX10_wander 81 = .ok (.invokestatic 69, 3) := by decide +kernel
theorem dX10_wander_84 : decode cX10_wander 84 = .ok (.ifCond .eq 21, 3) := by decide +kernel
theorem dX10_wander_87 : decode cX10_wander 87 = .ok (.aload_n 0, 1) := by decide +kernel
theorem dX10_wander_88 : decode cX10_wander 88 = .ok (.getfield 18, 3) := by decide +kernel
theorem dX10_wander_91 : decode cX10_wander 91 = .ok (.iload_n 1, 1) := by decide +kernel
theorem dX10_wander_92 : decode cX10_wander 92 = .ok (.iconst 1, 1) := by decide +kernel
theorem dX10_wander_93 : decode cX10_wander 93 = .ok (.iload 4, 2) := by decide +kernel
theorem dX10_wander_95 : decode cX10_wander 95 = .ok (.ishl, 1) := by decide +kernel
theorem dX10_wander_96 : decode cX10_wander 96 = .ok (.ior, 1) := by decide +kernel
theorem dX10_wander_97 : decode cX10_wander 97 = .ok (.dup2, 1) := by decide +kernel
theorem dX10_wander_98 : decode cX10_wander 98 = .ok (.iaload, 1) := by decide +kernel
theorem dX10_wander_99 : decode cX10_wander 99 = .ok (.iconst 1, 1) := by decide +kernel
theorem dX10_wander_100 : decode cX10_wander 100 = .ok (.iload 4, 2) := by decide +kernel
theorem dX10_wander_102 : decode cX10_wander 102 = .ok (.ishl, 1) := by decide +kernel
theorem dX10_wander_103 : decode cX10_wander 103 = .ok (.ior, 1) := by decide +kernel
theorem dX10_wander_104 : decode cX10_wander 104 = .ok (.iastore, 1) := by decide +kernel
theorem dX10_wander_105 : decode cX10_wander 105 = .ok (.iinc 4 1, 3) := by decide +kernel
theorem dX10_wander_108 : decode cX10_wander 108 = .ok (.goto (-42), 3) := by decide +kernel
theorem dX10_wander_111 : decode cX10_wander 111 = .ok (.return_, 1) := by decide +kernel
theorem dX11_feed_0 : decode cX11_feed 0 = .ok (.aload_n 0, 1) := by decide +kernel
theorem dX11_feed_1 : decode cX11_feed 1 = .ok (.getfield 10, 3) := by decide +kernel
theorem dX11_feed_4 : decode cX11_feed 4 = .ok (.lload_n 1, 1) := by decide +kernel
theorem dX11_feed_5 : decode cX11_feed 5 = .ok (.invokevirtual 96, 3) := by decide +kernel
theorem dX11_feed_8 : decode cX11_feed 8 = .ok (.aload_n 0, 1) := by decide +kernel
theorem dX11_feed_9 : decode cX11_feed 9 = .ok (.getfield 10, 3) := by decide +kernel
theorem dX11_feed_12 : decode cX11_feed 12 = .ok (.lload_n 3, 1) := by decide +kernel
theorem dX11_feed_13 : decode cX11_feed 13 = .ok (.invokevirtual 96, 3) := by decide +kernel
theorem dX11_feed_16 : decode cX11_feed 16 = .ok (.aload_n 0, 1) := by decide +kernel
theorem dX11_feed_17 : decode cX11_feed 17 = .ok (.getfield 10, 3) := by decide +kernel
theorem dX11_feed_20 : decode cX11_feed 20 = .ok (.lload 5, 2) := by decide +kernel
theorem dX11_feed_22 : decode cX11_feed 22 = .ok (.invokevirtual 96, 3) := by decide +kernel
theorem dX11_feed_25 : decode cX11_feed 25 = .ok (.aload_n 0, 1) := by decide +kernel
theorem dX11_feed_26 : decode cX11_feed 26 = .ok (.getfield 10, 3) := by decide +kernel
theorem dX11_feed_29 : decode cX11_feed 29 = .ok (.getfield 100, 3) := by decide +kernel
theorem dX11_feed_32 : decode cX11_feed 32 = .ok (.ireturn, 1) := by decide +kernel
theorem dX11_land_0 : decode cX11_land 0 = .ok (.aload_n 0, 1) := by decide +kernel
theorem dX11_land_1 : decode cX11_land 1 = .ok (.getfield 29, 3) := by decide +kernel
theorem dX11_land_4 : decode cX11_land 4 = .ok (.aload_n 0, 1) := by decide +kernel
theorem dX11_land_5 : decode cX11_land 5 = .ok (.getfield 10, 3) := by decide +kernel
theorem dX11_land_8 : decode cX11_land 8 = .ok (.aload_n 0, 1) := by decide +kernel
theorem dX11_land_9 : decode cX11_land 9 = .ok (.getfield 23, 3) := by decide +kernel
theorem dX11_land_12 : decode cX11_land 12 = .ok (.invokevirtual 103, 3) := by decide +kernel
theorem dX11_land_15 : decode cX11_land 15 = .ok (.istore_n 1, 1) := by decide +kernel
theorem dX11_land_16 : decode cX11_land 16 = .ok (.aload_n 0, 1) := by decide +kernel
theorem dX11_land_17 : decode cX11_land 17 = .ok (.getfield 10, 3) := by decide +kernel
theorem dX11_land_20 : decode cX11_land 20 = .ok (.iconst 0, 1) := by decide +kernel
theorem dX11_land_21 : decode cX11_land 21 = .ok (.putfield 100, 3) := by decide +kernel
theorem dX11_land_24 : decode cX11_land 24 = .ok (.iload_n 1, 1) := by decide +kernel
theorem dX11_land_25 : decode cX11_land 25 = .ok (.ifCond .ne 11, 3) := by decide +kernel
theorem dX11_land_28 : decode cX11_land 28 = .ok (.aload_n 0, 1) := by decide +kernel
theorem dX11_land_29 : decode cX11_land 29 = .ok (.getfield 10, 3) := by decide +kernel
theorem dX11_land_32 : decode cX11_land 32 = .ok (.getfield 107, 3) := by decide +kernel
theorem dX11_land_35 : decode cX11_land 35 = .ok (.ireturn, 1) := by decide +kernel
theorem dX11_land_36 : decode cX11_land 36 = .ok (.aload_n 0, 1) := by decide +kernel
theorem dX11_land_37 : decode cX11_land 37 = .ok (.getfield 19, 3) := by decide +kernel
theorem dX11_land_40 : decode cX11_land 40 = .ok (.aload_n 0, 1) := by decide +kernel
theorem dX11_land_41 : decode cX11_land 41 = .ok (.getfield 23, 3) := by decide +kernel
theorem dX11_land_44 : decode cX11_land 44 = .ok (.invokevirtual 110, 3) := by decide +kernel
theorem dX11_land_47 : decode cX11_land 47 = .ok (.aload_n 0, 1) := by decide +kernel
theorem dX11_land_48 : decode cX11_land 48 = .ok (.getfield 64, 3) := by decide +kernel
theorem dX11_land_51 : decode cX11_land 51 = .ok (.aload_n 0, 1) := by decide +kernel
theorem dX11_land_52 : decode cX11_land 52 = .ok (.getfield 19, 3) := by decide +kernel
theorem dX11_land_55 : decode cX11_land 55 = .ok (.invokevirtual 113, 3) := by decide +kernel
theorem dX11_land_58 : decode cX11_land 58 = .ok (.aload_n 0, 1) := by decide +kernel
theorem dX11_land_59 : decode cX11_land 59 = .ok (.getfield 36, 3) := by decide +kernel
theorem dX11_land_62 : decode cX11_land 62 = .ok (.iconst 0, 1) := by decide +kernel
theorem dX11_land_63 : decode cX11_land 63 = .ok (.putfield 116, 3) := by decide +kernel
theorem dX11_land_66 : decode cX11_land 66 = .ok (.aload_n 0, 1) := by decide +kernel
theorem dX11_land_67 : decode cX11_land 67 = .ok (.getfield 74, 3) := by decide +kernel
theorem dX11_land_70 : decode cX11_land 70 = .ok (.invokevirtual 119, 3) := by decide +kernel
theorem dX11_land_73 : decode cX11_land 73 = .ok (.aload_n 0, 1) := by decide +kernel
theorem dX11_land_74 : decode cX11_land 74 = .ok (.invokevirtual 122, 3) := by decide +kernel
theorem dX11_land_77 : decode cX11_land 77 = .ok (.iconst 0, 1) := by decide +kernel
theorem dX11_land_78 : decode cX11_land 78 = .ok (.istore_n 2, 1) := by decide +kernel
theorem dX11_land_79 : decode cX11_land 79 = .ok (.iload_n 2, 1) := by decide +kernel
theorem dX11_land_80 : decode cX11_land 80 = .ok (.iconst 4, 1) := by decide +kernel
theorem dX11_land_81 : decode cX11_land 81 = .ok (.if_icmp .ge 19, 3) := by decide +kernel
theorem dX11_land_84 : decode cX11_land 84 = .ok (.aload_n 0, 1) := by decide +kernel
theorem dX11_land_85 : decode cX11_land 85 = .ok (.getfield 84, 3) := by decide +kernel
theorem dX11_land_88 : decode cX11_land 88 = .ok (.iload_n 2, 1) := by decide +kernel
theorem dX11_land_89 : decode cX11_land 89 = .ok (.aaload, 1) := by decide +kernel
theorem dX11_land_90 : decode cX11_land 90 = .ok (.iconst 0, 1) := by decide +kernel
theorem dX11_land_91 : decode cX11_land 91 = .ok (.putfield 125, 3) := by decide +kernel
theorem dX11_land_94 : decode cX11_land 94 = .ok (.iinc 2 1, 3) := by decide +kernel
theorem dX11_land_97 : decode cX11_land 97 = .ok (.goto (-18), 3) := by decide +kernel
theorem dX11_land_100 : decode cX11_land 100 = .ok (.iconst 0, 1) := by decide +kernel
theorem dX11_land_101 : decode cX11_land 101 = .ok (.ireturn, 1) := by decide +kernel
theorem dX11_journey_0 : decode cX11_journey 0 = .ok (.aload_n 0, 1) := by decide +kernel
theorem dX11_journey_1 : decode cX11_journey 1 = .ok (.getfield 40, 3) := by decide +kernel
theorem dX11_journey_4 : decode cX11_journey 4 = .ok (.aload_n 0, 1) := by decide +kernel
theorem dX11_journey_5 : decode cX11_journey 5 = .ok (.getfield 10, 3) := by decide +kernel
theorem dX11_journey_8 : decode cX11_journey 8 = .ok (.aload_n 0, 1) := by decide +kernel
theorem dX11_journey_9 : decode cX11_journey 9 = .ok (.getfield 19, 3) := by decide +kernel
theorem dX11_journey_12 : decode cX11_journey 12 = .ok (.invokevirtual 129, 3) := by decide +kernel
theorem dX11_journey_15 : decode cX11_journey 15 = .ok (.istore_n 1, 1) := by decide +kernel
theorem dX11_journey_16 : decode cX11_journey 16 = .ok (.aload_n 0, 1) := by decide +kernel
theorem dX11_journey_17 : decode cX11_journey 17 = .ok (.getfield 10, 3) := by decide +kernel
theorem dX11_journey_20 : decode cX11_journey 20 = .ok (.iconst 0, 1) := by decide +kernel
theorem dX11_journey_21 : decode cX11_journey 21 = .ok (.putfield 100, 3) := by decide +kernel
theorem dX11_journey_24 : decode cX11_journey 24 = .ok (.iload_n 1, 1) := by decide +kernel
theorem dX11_journey_25 : decode cX11_journey 25 = .ok (.ifCond .ne 11, 3) := by decide +kernel
theorem dX11_journey_28 : decode cX11_journey 28 = .ok (.aload_n 0, 1) := by decide +kernel
theorem dX11_journey_29 : decode cX11_journey 29 = .ok (.getfield 10, 3) := by decide +kernel
theorem dX11_journey_32 : decode cX11_journey 32 = .ok (.getfield 107, 3) := by decide +kernel
theorem dX11_journey_35 : decode cX11_journey 35 = .ok (.ireturn, 1) := by decide +kernel
theorem dX11_journey_36 : decode cX11_journey 36 = .ok (.aload_n 0, 1) := by decide +kernel
theorem dX11_journey_37 : decode cX11_journey 37 = .ok (.getfield 36, 3) := by decide +kernel
theorem dX11_journey_40 : decode cX11_journey 40 = .ok (.aload_n 0, 1) := by decide +kernel
theorem dX11_journey_41 : decode cX11_journey 41 = .ok (.getfield 40, 3) := by decide +kernel
theorem dX11_journey_44 : decode cX11_journey 44 = .ok (.invokevirtual 130, 3) := by decide +kernel
theorem dX11_journey_47 : decode cX11_journey 47 = .ok (.iconst 0, 1) := by decide +kernel
theorem dX11_journey_48 : decode cX11_journey 48 = .ok (.ireturn, 1) := by decide +kernel
theorem dX11_person_0 : decode cX11_person 0 = .ok (.aload_n 0, 1) := by decide +kernel
theorem dX11_person_1 : decode cX11_person 1 = .ok (.iload_n 1, 1) := by decide +kernel
theorem dX11_person_2 : decode cX11_person 2 = .ok (.invokevirtual 133, 3) := by decide +kernel
theorem dX11_person_5 : decode cX11_person 5 = .ok (.ifCond .ne 5, 3) := by decide +kernel
theorem dX11_person_8 : decode cX11_person 8 = .ok (.iconst (-1), 1) := by decide +kernel
theorem dX11_person_9 : decode cX11_person 9 = .ok (.ireturn, 1) := by decide +kernel
theorem dX11_person_10 : decode cX11_person 10 = .ok (.iload_n 2, 1) := by decide +kernel
theorem dX11_person_11 : decode cX11_person 11 = .ok (.tableswitch 107 0 5 #[37, 47, 57, 77, 87, 97], 37) := by decide +kernel
theorem dX11_person_48 : decode cX11_person 48 = .ok (.aload_n 0, 1) := by decide +kernel
theorem dX11_person_49 : decode cX11_person 49 = .ok (.getfield 19, 3) := by decide +kernel
theorem dX11_person_52 : decode cX11_person 52 = .ok (.getfield 137, 3) := by decide +kernel
theorem dX11_person_55 : decode cX11_person 55 = .ok (.iload_n 1, 1) := by decide +kernel
theorem dX11_person_56 : decode cX11_person 56 = .ok (.iaload, 1) := by decide +kernel
theorem dX11_person_57 : decode cX11_person 57 = .ok (.ireturn, 1) := by decide +kernel
theorem dX11_person_58 : decode cX11_person 58 = .ok (.aload_n 0, 1) := by decide +kernel
theorem dX11_person_59 : decode cX11_person 59 = .ok (.getfield 64, 3) := by decide +kernel
theorem dX11_person_62 : decode cX11_person 62 = .ok (.getfield 141, 3) := by decide +kernel
theorem dX11_person_65 : decode cX11_person 65 = .ok (.iload_n 1, 1) := by decide +kernel
theorem dX11_person_66 : decode cX11_person 66 = .ok (.iaload, 1) := by decide +kernel
theorem dX11_person_67 : decode cX11_person 67 = .ok (.ireturn, 1) := by decide +kernel
theorem dX11_person_68 : decode cX11_person 68 = .ok (.aload_n 0, 1) := by decide +kernel
theorem dX11_person_69 : decode cX11_person 69 = .ok (.getfield 64, 3) := by decide +kernel
theorem dX11_person_72 : decode cX11_person 72 = .ok (.getfield 144, 3) := by decide +kernel
theorem dX11_person_75 : decode cX11_person 75 = .ok (.iload_n 1, 1) := by decide +kernel
theorem dX11_person_76 : decode cX11_person 76 = .ok (.iaload, 1) := by decide +kernel
theorem dX11_person_77 : decode cX11_person 77 = .ok (.aload_n 0, 1) := by decide +kernel
theorem dX11_person_78 : decode cX11_person 78 = .ok (.getfield 64, 3) := by decide +kernel
theorem dX11_person_81 : decode cX11_person 81 = .ok (.getfield 147, 3) := by decide +kernel
theorem dX11_person_84 : decode cX11_person 84 = .ok (.iload_n 1, 1) := by decide +kernel
theorem dX11_person_85 : decode cX11_person 85 = .ok (.iaload, 1) := by decide +kernel
theorem dX11_person_86 : decode cX11_person 86 = .ok (.iadd, 1) := by decide +kernel
theorem dX11_person_87 : decode cX11_person 87 = .ok (.ireturn, 1) := by decide +kernel
theorem dX11_person_88 : decode cX11_person 88 = .ok (.aload_n 0, 1) := by decide +kernel
theorem dX11_person_89 : decode cX11_person 89 = .ok (.getfield 64, 3) := by decide +kernel
theorem dX11_person_92 : decode cX11_person 92 = .ok (.getfield 147, 3) := by decide +kernel
theorem dX11_person_95 : decode cX11_person 95 = .ok (.iload_n 1, 1) := by decide +kernel
theorem dX11_person_96 : decode cX11_person 96 = .ok (.iaload, 1) := by decide +kernel
theorem dX11_person_97 : decode cX11_person 97 = .ok (.ireturn, 1) := by decide +kernel
theorem dX11_person_98 : decode cX11_person 98 = .ok (.aload_n 0, 1) := by decide +kernel
theorem dX11_person_99 : decode cX11_person 99 = .ok (.getfield 64, 3) := by decide +kernel
theorem dX11_person_102 : decode cX11_person 102 = .ok (.getfield 150, 3) := by decide +kernel
theorem dX11_person_105 : decode cX11_person 105 = .ok (.iload_n 1, 1) := by decide +kernel
theorem dX11_person_106 : decode cX11_person 106 = .ok (.iaload, 1) := by decide +kernel
theorem dX11_person_107 : decode cX11_person 107 = .ok (.ireturn, 1) := by decide +kernel
theorem dX11_person_108 : decode cX11_person 108 = .ok (.aload_n 0, 1) := by decide +kernel
theorem dX11_person_109 : decode cX11_person 109 = .ok (.getfield 64, 3) := by decide +kernel
theorem dX11_person_112 : decode cX11_person 112 = .ok (.getfield 153, 3) := by decide +kernel
theorem dX11_person_115 : decode cX11_person 115 = .ok (.iload_n 1, 1) := by decide +kernel
theorem dX11_person_116 : decode cX11_person 116 = .ok (.iaload, 1) := by decide +kernel
theorem dX11_person_117 : decode cX11_person 117 = .ok (.ireturn, 1) := by decide +kernel
theorem dX11_person_118 : decode cX11_person 118 = .ok (.iconst (-1), 1) := by decide +kernel
theorem dX11_person_119 : decode cX11_person 119 = .ok (.ireturn, 1) := by decide +kernel
theorem dX11_town_0 : decode cX11_town 0 = .ok (.aload_n 0, 1) := by decide +kernel
theorem dX11_town_1 : decode cX11_town 1 = .ok (.iload_n 1, 1) := by decide +kernel
theorem dX11_town_2 : decode cX11_town 2 = .ok (.invokevirtual 156, 3) := by decide +kernel
theorem dX11_town_5 : decode cX11_town 5 = .ok (.ifCond .ne 5, 3) := by decide +kernel
theorem dX11_town_8 : decode cX11_town 8 = .ok (.iconst (-1), 1) := by decide +kernel
theorem dX11_town_9 : decode cX11_town 9 = .ok (.ireturn, 1) := by decide +kernel
theorem dX11_town_10 : decode cX11_town 10 = .ok (.iload_n 2, 1) := by decide +kernel
theorem dX11_town_11 : decode cX11_town 11 = .ok (.tableswitch 58 0 2 #[25, 35, 45], 25) := by decide +kernel
theorem dX11_town_36 : decode cX11_town 36 = .ok (.aload_n 0, 1) := by decide +kernel
theorem dX11_town_37 : decode cX11_town 37 = .ok (.getfield 19, 3) := by decide +kernel
theorem dX11_town_40 : decode cX11_town 40 = .ok (.getfield 159, 3) := by decide +kernel
theorem dX11_town_43 : decode cX11_town 43 = .ok (.iload_n 1, 1) := by decide +kernel
theorem dX11_town_44 : decode cX11_town 44 = .ok (.iaload, 1) := by decide +kernel
theorem dX11_town_45 : decode cX11_town 45 = .ok (.ireturn, 1) := by decide +kernel
theorem dX11_town_46 : decode cX11_town 46 = .ok (.aload_n 0, 1) := by decide +kernel
theorem dX11_town_47 : decode cX11_town 47 = .ok (.getfield 19, 3) := by decide +kernel
theorem dX11_town_50 : decode cX11_town 50 = .ok (.getfield 162, 3) := by decide +kernel
theorem dX11_town_53 : decode cX11_town 53 = .ok (.iload_n 1, 1) := by decide +kernel
theorem dX11_town_54 : decode cX11_town 54 = .ok (.iaload, 1) := by decide +kernel
theorem dX11_town_55 : decode cX11_town 55 = .ok (.ireturn, 1) := by decide +kernel
theorem dX11_town_56 : decode cX11_town 56 = .ok (.aload_n 0, 1) := by decide +kernel
theorem dX11_town_57 : decode cX11_town 57 = .ok (.getfield 48, 3) := by decide +kernel
theorem dX11_town_60 : decode cX11_town 60 = .ok (.aload_n 0, 1) := by decide +kernel
theorem dX11_town_61 : decode cX11_town 61 = .ok (.getfield 64, 3) := by decide +kernel
theorem dX11_town_64 : decode cX11_town 64 = .ok (.iload_n 1, 1) := by decide +kernel
theorem dX11_town_65 : decode cX11_town 65 = .ok (.invokevirtual 165, 3) := by decide +kernel
theorem dX11_town_68 : decode cX11_town 68 = .ok (.ireturn, 1) := by decide +kernel
theorem dX11_town_69 : decode cX11_town 69 = .ok (.iconst (-1), 1) := by decide +kernel
theorem dX11_town_70 : decode cX11_town 70 = .ok (.ireturn, 1) := by decide +kernel
theorem dX11_count_0 : decode cX11_count 0 = .ok (.iload_n 1, 1) := by decide +kernel
theorem dX11_count_1 : decode cX11_count 1 = .ok (.tableswitch 171 0 11 #[63, 71, 79, 87, 95, 103, 118, 130, 142, 150, 158, 163], 63) := by decide +kernel
theorem dX11_count_64 : decode cX11_count 64 = .ok (.aload_n 0, 1) := by decide +kernel
theorem dX11_count_65 : decode cX11_count 65 = .ok (.getfield 19, 3) := by decide +kernel
theorem dX11_count_68 : decode cX11_count 68 = .ok (.getfield 169, 3) := by decide +kernel
theorem dX11_count_71 : decode cX11_count 71 = .ok (.ireturn, 1) := by decide +kernel
theorem dX11_count_72 : decode cX11_count 72 = .ok (.aload_n 0, 1) := by decide +kernel
theorem dX11_count_73 : decode cX11_count 73 = .ok (.getfield 19, 3) := by decide +kernel
theorem dX11_count_76 : decode cX11_count 76 = .ok (.getfield 172, 3) := by decide +kernel
theorem dX11_count_79 : decode cX11_count 79 = .ok (.ireturn, 1) := by decide +kernel
theorem dX11_count_80 : decode cX11_count 80 = .ok (.aload_n 0, 1) := by decide +kernel
theorem dX11_count_81 : decode cX11_count 81 = .ok (.getfield 19, 3) := by decide +kernel
theorem dX11_count_84 : decode cX11_count 84 = .ok (.getfield 175, 3) := by decide +kernel
theorem dX11_count_87 : decode cX11_count 87 = .ok (.ireturn, 1) := by decide +kernel
theorem dX11_count_88 : decode cX11_count 88 = .ok (.aload_n 0, 1) := by decide +kernel
theorem dX11_count_89 : decode cX11_count 89 = .ok (.getfield 19, 3) := by decide +kernel
theorem dX11_count_92 : decode cX11_count 92 = .ok (.getfield 178, 3) := by decide +kernel
theorem dX11_count_95 : decode cX11_count 95 = .ok (.ireturn, 1) := by decide +kernel
theorem dX11_count_96 : decode cX11_count 96 = .ok (.aload_n 0, 1) := by decide +kernel
theorem dX11_count_97 : decode cX11_count 97 = .ok (.getfield 64, 3) := by decide +kernel
theorem dX11_count_100 : decode cX11_count 100 = .ok (.getfield 181, 3) := by decide +kernel
theorem dX11_count_103 : decode cX11_count 103 = .ok (.ireturn, 1) := by decide +kernel
theorem dX11_count_104 : decode cX11_count 104 = .ok (.aload_n 0, 1) := by decide +kernel
theorem dX11_count_105 : decode cX11_count 105 = .ok (.getfield 64, 3) := by decide +kernel
theorem dX11_count_108 : decode cX11_count 108 = .ok (.aload_n 0, 1) := by decide +kernel
theorem dX11_count_109 : decode cX11_count 109 = .ok (.getfield 19, 3) := by decide +kernel
theorem dX11_count_112 : decode cX11_count 112 = .ok (.getfield 172, 3) := by decide +kernel
theorem dX11_count_115 : decode cX11_count 115 = .ok (.invokevirtual 184, 3) := by decide +kernel
theorem dX11_count_118 : decode cX11_count 118 = .ok (.ireturn, 1) := by decide +kernel
theorem dX11_count_119 : decode cX11_count 119 = .ok (.aload_n 0, 1) := by decide +kernel
theorem dX11_count_120 : decode cX11_count 120 = .ok (.aload_n 0, 1) := by decide +kernel
theorem dX11_count_121 : decode cX11_count 121 = .ok (.getfield 64, 3) := by decide +kernel
theorem dX11_count_124 : decode cX11_count 124 = .ok (.getfield 147, 3) := by decide +kernel
theorem dX11_count_127 : decode cX11_count 127 = .ok (.invokevirtual 188, 3) := by decide +kernel
theorem dX11_count_130 : decode cX11_count 130 = .ok (.ireturn, 1) := by decide +kernel
theorem dX11_count_131 : decode cX11_count 131 = .ok (.aload_n 0, 1) := by decide +kernel
theorem dX11_count_132 : decode cX11_count 132 = .ok (.aload_n 0, 1) := by decide +kernel
theorem dX11_count_133 : decode cX11_count 133 = .ok (.getfield 64, 3) := by decide +kernel
theorem dX11_count_136 : decode cX11_count 136 = .ok (.getfield 150, 3) := by decide +kernel
theorem dX11_count_139 : decode cX11_count 139 = .ok (.invokevirtual 188, 3) := by decide +kernel
theorem dX11_count_142 : decode cX11_count 142 = .ok (.ireturn, 1) := by decide +kernel
theorem dX11_count_143 : decode cX11_count 143 = .ok (.aload_n 0, 1) := by decide +kernel
theorem dX11_count_144 : decode cX11_count 144 = .ok (.getfield 36, 3) := by decide +kernel
theorem dX11_count_147 : decode cX11_count 147 = .ok (.getfield 116, 3) := by decide +kernel
theorem dX11_count_150 : decode cX11_count 150 = .ok (.ireturn, 1) := by decide +kernel
theorem dX11_count_151 : decode cX11_count 151 = .ok (.aload_n 0, 1) := by decide +kernel
theorem dX11_count_152 : decode cX11_count 152 = .ok (.getfield 74, 3) := by decide +kernel
theorem dX11_count_155 : decode cX11_count 155 = .ok (.getfield 192, 3) := by decide +kernel
theorem dX11_count_158 : decode cX11_count 158 = .ok (.ireturn, 1) := by decide +kernel
theorem dX11_count_159 : decode cX11_count 159 = .ok (.aload_n 0, 1) := by decide +kernel
theorem dX11_count_160 : decode cX11_count 160 = .ok (.getfield 92, 3) := by decide +kernel
theorem dX11_count_163 : decode cX11_count 163 = .ok (.ireturn, 1) := by decide +kernel
theorem dX11_count_164 : decode cX11_count 164 = .ok (.aload_n 0, 1) := by decide +kernel
theorem dX11_count_165 : decode cX11_count 165 = .ok (.getfield 10, 3) := by decide +kernel
theorem dX11_count_168 : decode cX11_count 168 = .ok (.getfield 100, 3) := by decide +kernel
theorem dX11_count_171 : decode cX11_count 171 = .ok (.ireturn, 1) := by decide +kernel
theorem dX11_count_172 : decode cX11_count 172 = .ok (.iconst (-1), 1) := by decide +kernel
theorem dX11_count_173 : decode cX11_count 173 = .ok (.ireturn, 1) := by decide +kernel
theorem dX11_sum_0 : decode cX11_sum 0 = .ok (.iconst 0, 1) := by decide +kernel
theorem dX11_sum_1 : decode cX11_sum 1 = .ok (.istore_n 2, 1) := by decide +kernel
theorem dX11_sum_2 : decode cX11_sum 2 = .ok (.iconst 0, 1) := by decide +kernel
theorem dX11_sum_3 : decode cX11_sum 3 = .ok (.istore_n 3, 1) := by decide +kernel
theorem dX11_sum_4 : decode cX11_sum 4 = .ok (.iload_n 3, 1) := by decide +kernel
theorem dX11_sum_5 : decode cX11_sum 5 = .ok (.aload_n 0, 1) := by decide +kernel
theorem dX11_sum_6 : decode cX11_sum 6 = .ok (.getfield 19, 3) := by decide +kernel
theorem dX11_sum_9 : decode cX11_sum 9 = .ok (.getfield 172, 3) := by decide +kernel
theorem dX11_sum_12 : decode cX11_sum 12 = .ok (.if_icmp .ge 21, 3) := by decide +kernel
theorem dX11_sum_15 : decode cX11_sum 15 = .ok (.iload_n 3, 1) := by decide +kernel
theorem dX11_sum_16 : decode cX11_sum 16 = .ok (.aload_n 1, 1) := by decide +kernel
theorem dX11_sum_17 : decode cX11_sum 17 = .ok (.arraylength, 1) := by decide +kernel
theorem dX11_sum_18 : decode cX11_sum 18 = .ok (.if_icmp .ge 15, 3) := by decide +kernel
theorem dX11_sum_21 : decode cX11_sum 21 = .ok (.iload_n 2, 1) := by decide +kernel
theorem dX11_sum_22 : decode cX11_sum 22 = .ok (.aload_n 1, 1) := by decide +kernel
theorem dX11_sum_23 : decode cX11_sum 23 = .ok (.iload_n 3, 1) := by decide +kernel
theorem dX11_sum_24 : decode cX11_sum 24 = .ok (.iaload, 1) := by decide +kernel
theorem dX11_sum_25 : decode cX11_sum 25 = .ok (.iadd, 1) := by decide +kernel
theorem dX11_sum_26 : decode cX11_sum 26 = .ok (.istore_n 2, 1) := by decide +kernel
theorem dX11_sum_27 : decode cX11_sum 27 = .ok (.iinc 3 1, 3) := by decide +kernel
theorem dX11_sum_30 : decode cX11_sum 30 = .ok (.goto (-26), 3) := by decide +kernel
theorem dX11_sum_33 : decode cX11_sum 33 = .ok (.iload_n 2, 1) := by decide +kernel
theorem dX11_sum_34 : decode cX11_sum 34 = .ok (.ireturn, 1) := by decide +kernel
theorem dX11_isPerson_0 : decode cX11_isPerson 0 = .ok (.iload_n 1, 1) := by decide +kernel
theorem dX11_isPerson_1 : decode cX11_isPerson 1 = .ok (.ifCond .lt 18, 3) := by decide +kernel
theorem dX11_isPerson_4 : decode cX11_isPerson 4 = .ok (.iload_n 1, 1) := by decide +kernel
theorem dX11_isPerson_5 : decode cX11_isPerson 5 = .ok (.aload_n 0, 1) := by decide +kernel
theorem dX11_isPerson_6 : decode cX11_isPerson 6 = .ok (.getfield 19, 3) := by decide +kernel
theorem dX11_isPerson_9 : decode cX11_isPerson 9 = .ok (.getfield 172, 3) := by decide +kernel
theorem dX11_isPerson_12 : decode cX11_isPerson 12 = .ok (.if_icmp .ge 7, 3) := by decide +kernel
theorem dX11_isPerson_15 : decode cX11_isPerson 15 = .ok (.iconst 1, 1) := by decide +kernel
theorem dX11_isPerson_16 : decode cX11_isPerson 16 = .ok (.goto 4, 3) := by decide +kernel
theorem dX11_isPerson_19 : decode cX11_isPerson 19 = .ok (.iconst 0, 1) := by decide +kernel
theorem dX11_isPerson_20 : decode cX11_isPerson 20 = .ok (.ireturn, 1) := by decide +kernel
theorem dX11_isTown_0 : decode cX11_isTown 0 = .ok (.iload_n 1, 1) := by decide +kernel
theorem dX11_isTown_1 : decode cX11_isTown 1 = .ok (.ifCond .lt 18, 3) := by decide +kernel
theorem dX11_isTown_4 : decode cX11_isTown 4 = .ok (.iload_n 1, 1) := by decide +kernel
theorem dX11_isTown_5 : decode cX11_isTown 5 = .ok (.aload_n 0, 1) := by decide +kernel
theorem dX11_isTown_6 : decode cX11_isTown 6 = .ok (.getfield 19, 3) := by decide +kernel
theorem dX11_isTown_9 : decode cX11_isTown 9 = .ok (.getfield 169, 3) := by decide +kernel
theorem dX11_isTown_12 : decode cX11_isTown 12 = .ok (.if_icmp .ge 7, 3) := by decide +kernel
theorem dX11_isTown_15 : decode cX11_isTown 15 = .ok (.iconst 1, 1) := by decide +kernel
theorem dX11_isTown_16 : decode cX11_isTown 16 = .ok (.goto 4, 3) := by decide +kernel
theorem dX11_isTown_19 : decode cX11_isTown 19 = .ok (.iconst 0, 1) := by decide +kernel
theorem dX11_isTown_20 : decode cX11_isTown 20 = .ok (.ireturn, 1) := by decide +kernel
theorem dX11_go_0 : decode cX11_go 0 = .ok (.aload_n 0, 1) := by decide +kernel
theorem dX11_go_1 : decode cX11_go 1 = .ok (.iload_n 1, 1) := by decide +kernel
theorem dX11_go_2 : decode cX11_go 2 = .ok (.invokevirtual 133, 3) := by decide +kernel
theorem dX11_go_5 : decode cX11_go 5 = .ok (.ifCond .eq 27, 3) := by decide +kernel
theorem dX11_go_8 : decode cX11_go 8 = .ok (.aload_n 0, 1) := by decide +kernel
theorem dX11_go_9 : decode cX11_go 9 = .ok (.iload_n 2, 1) := by decide +kernel
theorem dX11_go_10 : decode cX11_go 10 = .ok (.invokevirtual 156, 3) := by decide +kernel
theorem dX11_go_13 : decode cX11_go 13 = .ok (.ifCond .eq 19, 3) := by decide +kernel
theorem dX11_go_16 : decode cX11_go 16 = .ok (.aload_n 0, 1) := by decide +kernel
theorem dX11_go_17 : decode cX11_go 17 = .ok (.getfield 48, 3) := by decide +kernel
theorem dX11_go_20 : decode cX11_go 20 = .ok (.aload_n 0, 1) := by decide +kernel
theorem dX11_go_21 : decode cX11_go 21 = .ok (.getfield 64, 3) := by decide +kernel
theorem dX11_go_24 : decode cX11_go 24 = .ok (.iload_n 1, 1) := by decide +kernel
theorem dX11_go_25 : decode cX11_go 25 = .ok (.iload_n 2, 1) := by decide +kernel
theorem dX11_go_26 : decode cX11_go 26 = .ok (.invokevirtual 195, 3) := by decide +kernel
theorem dX11_go_29 : decode cX11_go 29 = .ok (.ifCond .ne 5, 3) := by decide +kernel
theorem dX11_go_32 : decode cX11_go 32 = .ok (.iconst 0, 1) := by decide +kernel
theorem dX11_go_33 : decode cX11_go 33 = .ok (.ireturn, 1) := by decide +kernel
theorem dX11_go_34 : decode cX11_go 34 = .ok (.aload_n 0, 1) := by decide +kernel
theorem dX11_go_35 : decode cX11_go 35 = .ok (.invokevirtual 199, 3) := by decide +kernel
theorem dX11_go_38 : decode cX11_go 38 = .ok (.aload_n 0, 1) := by decide +kernel
theorem dX11_go_39 : decode cX11_go 39 = .ok (.getfield 64, 3) := by decide +kernel
theorem dX11_go_42 : decode cX11_go 42 = .ok (.iload_n 1, 1) := by decide +kernel
theorem dX11_go_43 : decode cX11_go 43 = .ok (.iload_n 2, 1) := by decide +kernel
theorem dX11_go_44 : decode cX11_go 44 = .ok (.invokevirtual 202, 3) := by decide +kernel
theorem dX11_go_47 : decode cX11_go 47 = .ok (.iconst 1, 1) := by decide +kernel
theorem dX11_go_48 : decode cX11_go 48 = .ok (.ireturn, 1) := by decide +kernel
theorem dX11_forge_0 : decode cX11_forge 0 = .ok (.aload_n 0, 1) := by decide +kernel
theorem dX11_forge_1 : decode cX11_forge 1 = .ok (.iload_n 1, 1) := by decide +kernel
theorem dX11_forge_2 : decode cX11_forge 2 = .ok (.invokevirtual 133, 3) := by decide +kernel
theorem dX11_forge_5 : decode cX11_forge 5 = .ok (.ifCond .eq 19, 3) := by decide +kernel
theorem dX11_forge_8 : decode cX11_forge 8 = .ok (.aload_n 0, 1) := by decide +kernel
theorem dX11_forge_9 : decode cX11_forge 9 = .ok (.getfield 48, 3) := by decide +kernel
theorem dX11_forge_12 : decode cX11_forge 12 = .ok (.aload_n 0, 1) := by decide +kernel
theorem dX11_forge_13 : decode cX11_forge 13 = .ok (.getfield 64, 3) := by decide +kernel
theorem dX11_forge_16 : decode cX11_forge 16 = .ok (.iload_n 1, 1) := by decide +kernel
theorem dX11_forge_17 : decode cX11_forge 17 = .ok (.iload_n 2, 1) := by decide +kernel
theorem dX11_forge_18 : decode cX11_forge 18 = .ok (.invokevirtual 206, 3) := by decide +kernel
theorem dX11_forge_21 : decode cX11_forge 21 = .ok (.ifCond .ne 5, 3) := by decide +kernel
theorem dX11_forge_24 : decode cX11_forge 24 = .ok (.iconst (-1), 1) := by decide +kernel
theorem dX11_forge_25 : decode cX11_forge 25 = .ok (.ireturn, 1) := by decide +kernel
theorem dX11_forge_26 : decode cX11_forge 26 = .ok (.aload_n 0, 1) := by decide +kernel
theorem dX11_forge_27 : decode cX11_forge 27 = .ok (.invokevirtual 199, 3) := by decide +kernel
theorem dX11_forge_30 : decode cX11_forge 30 = .ok (.aload_n 0, 1) := by decide +kernel
theorem dX11_forge_31 : decode cX11_forge 31 = .ok (.getfield 48, 3) := by decide +kernel
theorem dX11_forge_34 : decode cX11_forge 34 = .ok (.aload_n 0, 1) := by decide +kernel
theorem dX11_forge_35 : decode cX11_forge 35 = .ok (.getfield 64, 3) := by decide +kernel
theorem dX11_forge_38 : decode cX11_forge 38 = .ok (.iload_n 1, 1) := by decide +kernel
theorem dX11_forge_39 : decode cX11_forge 39 = .ok (.iload_n 2, 1) := by decide +kernel
theorem dX11_forge_40 : decode cX11_forge 40 = .ok (.invokevirtual 209, 3) := by decide +kernel
theorem dX11_forge_43 : decode cX11_forge 43 = .ok (.aload_n 0, 1) := by decide +kernel
theorem dX11_forge_44 : decode cX11_forge 44 = .ok (.getfield 64, 3) := by decide +kernel
theorem dX11_forge_47 : decode cX11_forge 47 = .ok (.getfield 150, 3) := by decide +kernel
theorem dX11_forge_50 : decode cX11_forge 50 = .ok (.iload_n 1, 1) := by decide +kernel
theorem dX11_forge_51 : decode cX11_forge 51 = .ok (.iaload, 1) := by decide +kernel
theorem dX11_forge_52 : decode cX11_forge 52 = .ok (.ireturn, 1) := by decide +kernel
theorem dX11_shave_0 : decode cX11_shave 0 = .ok (.aload_n 0, 1) := by decide +kernel
theorem dX11_shave_1 : decode cX11_shave 1 = .ok (.iload_n 1, 1) := by decide +kernel
theorem dX11_shave_2 : decode cX11_shave 2 = .ok (.invokevirtual 133, 3) := by decide +kernel
theorem dX11_shave_5 : decode cX11_shave 5 = .ok (.ifCond .ne 5, 3) := by decide +kernel
theorem dX11_shave_8 : decode cX11_shave 8 = .ok (.iconst 0, 1) := by decide +kernel
theorem dX11_shave_9 : decode cX11_shave 9 = .ok (.ireturn, 1) := by decide +kernel
theorem dX11_shave_10 : decode cX11_shave 10 = .ok (.aload_n 0, 1) := by decide +kernel
theorem dX11_shave_11 : decode cX11_shave 11 = .ok (.invokevirtual 199, 3) := by decide +kernel
theorem dX11_shave_14 : decode cX11_shave 14 = .ok (.aload_n 0, 1) := by decide +kernel
theorem dX11_shave_15 : decode cX11_shave 15 = .ok (.getfield 64, 3) := by decide +kernel
theorem dX11_shave_18 : decode cX11_shave 18 = .ok (.iload_n 1, 1) := by decide +kernel
theorem dX11_shave_19 : decode cX11_shave 19 = .ok (.invokevirtual 213, 3) := by decide +kernel
theorem dX11_shave_22 : decode cX11_shave 22 = .ok (.iconst 1, 1) := by decide +kernel
theorem dX11_shave_23 : decode cX11_shave 23 = .ok (.ireturn, 1) := by decide +kernel
theorem dX11_week_0 : decode cX11_week 0 = .ok (.aload_n 0, 1) := by decide +kernel
theorem dX11_week_1 : decode cX11_week 1 = .ok (.invokevirtual 199, 3) := by decide +kernel
theorem dX11_week_4 : decode cX11_week 4 = .ok (.aload_n 0, 1) := by decide +kernel
theorem dX11_week_5 : decode cX11_week 5 = .ok (.getfield 48, 3) := by decide +kernel
theorem dX11_week_8 : decode cX11_week 8 = .ok (.aload_n 0, 1) := by decide +kernel
theorem dX11_week_9 : decode cX11_week 9 = .ok (.getfield 64, 3) := by decide +kernel
theorem dX11_week_12 : decode cX11_week 12 = .ok (.invokevirtual 217, 3) := by decide +kernel
theorem dX11_week_15 : decode cX11_week 15 = .ok (.aload_n 0, 1) := by decide +kernel
theorem dX11_week_16 : decode cX11_week 16 = .ok (.getfield 64, 3) := by decide +kernel
theorem dX11_week_19 : decode cX11_week 19 = .ok (.getfield 181, 3) := by decide +kernel
theorem dX11_week_22 : decode cX11_week 22 = .ok (.ireturn, 1) := by decide +kernel
theorem dX11_undo_0 : decode cX11_undo 0 = .ok (.aload_n 0, 1) := by decide +kernel
theorem dX11_undo_1 : decode cX11_undo 1 = .ok (.getfield 92, 3) := by decide +kernel
theorem dX11_undo_4 : decode cX11_undo 4 = .ok (.ifCond .ne 5, 3) := by decide +kernel
theorem dX11_undo_7 : decode cX11_undo 7 = .ok (.iconst 0, 1) := by decide +kernel
theorem dX11_undo_8 : decode cX11_undo 8 = .ok (.ireturn, 1) := by decide +kernel
theorem dX11_undo_9 : decode cX11_undo 9 = .ok (.aload_n 0, 1) := by decide +kernel
theorem dX11_undo_10 : decode cX11_undo 10 = .ok (.aload_n 0, 1) := by decide +kernel
theorem dX11_undo_11 : decode cX11_undo 11 = .ok (.getfield 88, 3) := by decide +kernel
theorem dX11_undo_14 : decode cX11_undo 14 = .ok (.bipush 16, 2) := by decide +kernel
theorem dX11_undo_16 : decode cX11_undo 16 = .ok (.iadd, 1) := by decide +kernel
theorem dX11_undo_17 : decode cX11_undo 17 = .ok (.iconst 1, 1) := by decide +kernel
theorem dX11_undo_18 : decode cX11_undo 18 = .ok (.isub, 1) := by decide +kernel
theorem dX11_undo_19 : decode cX11_undo 19 = .ok (.bipush 16, 2) := by decide +kernel
theorem dX11_undo_21 : decode cX11_undo 21 = .ok (.irem, 1) := by decide +kernel
theorem dX11_undo_22 : decode cX11_undo 22 = .ok (.putfield 88, 3) := by decide +kernel
theorem dX11_undo_25 : decode cX11_undo 25 = .ok (.aload_n 0, 1) := by decide +kernel
theorem dX11_undo_26 : decode cX11_undo 26 = .ok (.dup, 1) := by decide +kernel
theorem dX11_undo_27 : decode cX11_undo 27 = .ok (.getfield 92, 3) := by decide +kernel
theorem dX11_undo_30 : decode cX11_undo 30 = .ok (.iconst 1, 1) := by decide +kernel
theorem dX11_undo_31 : decode cX11_undo 31 = .ok (.isub, 1) := by decide +kernel
theorem dX11_undo_32 : decode cX11_undo 32 = .ok (.putfield 92, 3) := by decide +kernel
theorem dX11_undo_35 : decode cX11_undo 35 = .ok (.aload_n 0, 1) := by decide +kernel
theorem dX11_undo_36 : decode cX11_undo 36 = .ok (.getfield 64, 3) := by decide +kernel
theorem dX11_undo_39 : decode cX11_undo 39 = .ok (.aload_n 0, 1) := by decide +kernel
theorem dX11_undo_40 : decode cX11_undo 40 = .ok (.getfield 78, 3) := by decide +kernel
theorem dX11_undo_43 : decode cX11_undo 43 = .ok (.aload_n 0, 1) := by decide +kernel
theorem dX11_undo_44 : decode cX11_undo 44 = .ok (.getfield 88, 3) := by decide +kernel
theorem dX11_undo_47 : decode cX11_undo 47 = .ok (.aaload, 1) := by decide +kernel
theorem dX11_undo_48 : decode cX11_undo 48 = .ok (.invokevirtual 221, 3) := by decide +kernel
theorem dX11_undo_51 : decode cX11_undo 51 = .ok (.iconst 1, 1) := by decide +kernel
theorem dX11_undo_52 : decode cX11_undo 52 = .ok (.ireturn, 1) := by decide +kernel
theorem dX11_remember_0 : decode cX11_remember 0 = .ok (.aload_n 0, 1) := by decide +kernel
theorem dX11_remember_1 : decode cX11_remember 1 = .ok (.getfield 78, 3) := by decide +kernel
theorem dX11_remember_4 : decode cX11_remember 4 = .ok (.aload_n 0, 1) := by decide +kernel
theorem dX11_remember_5 : decode cX11_remember 5 = .ok (.getfield 88, 3) := by decide +kernel
theorem dX11_remember_8 : decode cX11_remember 8 = .ok (.aaload, 1) := by decide +kernel
theorem dX11_remember_9 : decode cX11_remember 9 = .ok (.aload_n 0, 1) := by decide +kernel
theorem dX11_remember_10 : decode cX11_remember 10 = .ok (.getfield 64, 3) := by decide +kernel
theorem dX11_remember_13 : decode cX11_remember 13 = .ok (.invokevirtual 221, 3) := by decide +kernel
theorem dX11_remember_16 : decode cX11_remember 16 = .ok (.aload_n 0, 1) := by decide +kernel
theorem dX11_remember_17 : decode cX11_remember 17 = .ok (.aload_n 0, 1) := by decide +kernel
