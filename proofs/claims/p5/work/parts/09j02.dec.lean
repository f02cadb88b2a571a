theorem dX3_readTown_46 : decode cX3_readTown 46 = .ok (.getstatic 126, 3) := by decide +kernel
theorem dX3_readTown_49 : decode cX3_readTown 49 = .ok (.invokevirtual 47, 3) := by decide +kernel
theorem dX3_readTown_52 : decode cX3_readTown 52 = .ok (.ifCond .ne 5, 3) := by decide +kernel
theorem dX3_readTown_55 : decode cX3_readTown 55 = .ok (.iconst 0, 1) := by decide +kernel
theorem dX3_readTown_56 : decode cX3_readTown 56 = .ok (.ireturn, 1) := by decide +kernel
theorem dX3_readTown_57 : decode cX3_readTown 57 = .ok (.aload_n 2, 1) := by decide +kernel
theorem dX3_readTown_58 : decode cX3_readTown 58 = .ok (.getfield 129, 3) := by decide +kernel
theorem dX3_readTown_61 : decode cX3_readTown 61 = .ok (.iload_n 3, 1) := by decide +kernel
theorem dX3_readTown_62 : decode cX3_readTown 62 = .ok (.aload_n 1, 1) := by decide +kernel
theorem dX3_readTown_63 : decode cX3_readTown 63 = .ok (.iconst 0, 1) := by decide +kernel
theorem dX3_readTown_64 : decode cX3_readTown 64 = .ok (.bipush 30, 2) := by decide +kernel
theorem dX3_readTown_66 : decode cX3_readTown 66 = .ok (.invokevirtual 133, 3) := by decide +kernel
theorem dX3_readTown_69 : decode cX3_readTown 69 = .ok (.iastore, 1) := by decide +kernel
theorem dX3_readTown_70 : decode cX3_readTown 70 = .ok (.aload_n 2, 1) := by decide +kernel
theorem dX3_readTown_71 : decode cX3_readTown 71 = .ok (.dup, 1) := by decide +kernel
theorem dX3_readTown_72 : decode cX3_readTown 72 = .ok (.getfield 109, 3) := by decide +kernel
theorem dX3_readTown_75 : decode cX3_readTown 75 = .ok (.iconst 1, 1) := by decide +kernel
theorem dX3_readTown_76 : decode cX3_readTown 76 = .ok (.iadd, 1) := by decide +kernel
theorem dX3_readTown_77 : decode cX3_readTown 77 = .ok (.putfield 109, 3) := by decide +kernel
theorem dX3_readTown_80 : decode cX3_readTown 80 = .ok (.aload_n 2, 1) := by decide +kernel
theorem dX3_readTown_81 : decode cX3_readTown 81 = .ok (.getfield 129, 3) := by decide +kernel
theorem dX3_readTown_84 : decode cX3_readTown 84 = .ok (.iload_n 3, 1) := by decide +kernel
theorem dX3_readTown_85 : decode cX3_readTown 85 = .ok (.iaload, 1) := by decide +kernel
theorem dX3_readTown_86 : decode cX3_readTown 86 = .ok (.iconst (-1), 1) := by decide +kernel
theorem dX3_readTown_87 : decode cX3_readTown 87 = .ok (.if_icmp .eq 7, 3) := by decide +kernel
theorem dX3_readTown_90 : decode cX3_readTown 90 = .ok (.iconst 1, 1) := by decide +kernel
theorem dX3_readTown_91 : decode cX3_readTown 91 = .ok (.goto 4, 3) := by decide +kernel
theorem dX3_readTown_94 : decode cX3_readTown 94 = .ok (.iconst 0, 1) := by decide +kernel
theorem dX3_readTown_95 : decode cX3_readTown 95 = .ok (.ireturn, 1) := by decide +kernel
theorem dX3_readRoad_0 : decode cX3_readRoad 0 = .ok (.aload_n 1, 1) := by decide +kernel
theorem dX3_readRoad_1 : decode cX3_readRoad 1 = .ok (.invokevirtual 112, 3) := by decide +kernel
theorem dX3_readRoad_4 : decode cX3_readRoad 4 = .ok (.aload_n 1, 1) := by decide +kernel
theorem dX3_readRoad_5 : decode cX3_readRoad 5 = .ok (.aload_n 2, 1) := by decide +kernel
theorem dX3_readRoad_6 : decode cX3_readRoad 6 = .ok (.invokevirtual 137, 3) := by decide +kernel
theorem dX3_readRoad_9 : decode cX3_readRoad 9 = .ok (.istore_n 3, 1) := by decide +kernel
theorem dX3_readRoad_10 : decode cX3_readRoad 10 = .ok (.iload_n 3, 1) := by decide +kernel
theorem dX3_readRoad_11 : decode cX3_readRoad 11 = .ok (.iconst (-1), 1) := by decide +kernel
theorem dX3_readRoad_12 : decode cX3_readRoad 12 = .ok (.if_icmp .ne 5, 3) := by decide +kernel
theorem dX3_readRoad_15 : decode cX3_readRoad 15 = .ok (.iconst 0, 1) := by decide +kernel
theorem dX3_readRoad_16 : decode cX3_readRoad 16 = .ok (.ireturn, 1) := by decide +kernel
theorem dX3_readRoad_17 : decode cX3_readRoad 17 = .ok (.aload_n 1, 1) := by decide +kernel
theorem dX3_readRoad_18 : decode cX3_readRoad 18 = .ok (.invokevirtual 112, 3) := by decide +kernel
theorem dX3_readRoad_21 : decode cX3_readRoad 21 = .ok (.aload_n 1, 1) := by decide +kernel
theorem dX3_readRoad_22 : decode cX3_readRoad 22 = .ok (.aload_n 2, 1) := by decide +kernel
theorem dX3_readRoad_23 : decode cX3_readRoad 23 = .ok (.invokevirtual 137, 3) := by decide +kernel
theorem dX3_readRoad_26 : decode cX3_readRoad 26 = .ok (.istore 4, 2) := by decide +kernel
theorem dX3_readRoad_28 : decode cX3_readRoad 28 = .ok (.iload 4, 2) := by decide +kernel
theorem dX3_readRoad_30 : decode cX3_readRoad 30 = .ok (.iconst (-1), 1) := by decide +kernel
theorem dX3_readRoad_31 : decode cX3_readRoad 31 = .ok (.if_icmp .ne 5, 3) := by decide +kernel
theorem dX3_readRoad_34 : decode cX3_readRoad 34 = .ok (.iconst 0, 1) := by decide +kernel
theorem dX3_readRoad_35 : decode cX3_readRoad 35 = .ok (.ireturn, 1) := by decide +kernel
theorem dX3_readRoad_36 : decode cX3_readRoad 36 = .ok (.iload_n 3, 1) := by decide +kernel
theorem dX3_readRoad_37 : decode cX3_readRoad 37 = .ok (.iload 4, 2) := by decide +kernel
theorem dX3_readRoad_39 : decode cX3_readRoad 39 = .ok (.if_icmp .eq 17, 3) := by decide +kernel
theorem dX3_readRoad_42 : decode cX3_readRoad 42 = .ok (.aload_n 2, 1) := by decide +kernel
theorem dX3_readRoad_43 : decode cX3_readRoad 43 = .ok (.getfield 141, 3) := by decide +kernel
theorem dX3_readRoad_46 : decode cX3_readRoad 46 = .ok (.iload_n 3, 1) := by decide +kernel
theorem dX3_readRoad_47 : decode cX3_readRoad 47 = .ok (.iaload, 1) := by decide +kernel
theorem dX3_readRoad_48 : decode cX3_readRoad 48 = .ok (.iload 4, 2) := by decide +kernel
theorem dX3_readRoad_50 : decode cX3_readRoad 50 = .ok (.invokestatic 144, 3) := by decide +kernel
theorem dX3_readRoad_53 : decode cX3_readRoad 53 = .ok (.ifCond .eq 9, 3) := by decide +kernel
theorem dX3_readRoad_56 : decode cX3_readRoad 56 = .ok (.aload_n 1, 1) := by decide +kernel
theorem dX3_readRoad_57 : decode cX3_readRoad 57 = .ok (.iconst 3, 1) := by decide +kernel
theorem dX3_readRoad_58 : decode cX3_readRoad 58 = .ok (.invokevirtual 105, 3) := by decide +kernel
theorem dX3_readRoad_61 : decode cX3_readRoad 61 = .ok (.ireturn, 1) := by decide +kernel
theorem dX3_readRoad_62 : decode cX3_readRoad 62 = .ok (.aload_n 1, 1) := by decide +kernel
theorem dX3_readRoad_63 : decode cX3_readRoad 63 = .ok (.invokevirtual 112, 3) := by decide +kernel
theorem dX3_readRoad_66 : decode cX3_readRoad 66 = .ok (.aload_n 2, 1) := by decide +kernel
theorem dX3_readRoad_67 : decode cX3_readRoad 67 = .ok (.getfield 141, 3) := by decide +kernel
theorem dX3_readRoad_70 : decode cX3_readRoad 70 = .ok (.iload_n 3, 1) := by decide +kernel
theorem dX3_readRoad_71 : decode cX3_readRoad 71 = .ok (.dup2, 1) := by decide +kernel
theorem dX3_readRoad_72 : decode cX3_readRoad 72 = .ok (.iaload, 1) := by decide +kernel
theorem dX3_readRoad_73 : decode cX3_readRoad 73 = .ok (.iconst 1, 1) := by decide +kernel
theorem dX3_readRoad_74 : decode cX3_readRoad 74 = .ok (.iload 4, 2) := by decide +kernel
theorem dX3_readRoad_76 : decode cX3_readRoad 76 = .ok (.ishl, 1) := by decide +kernel
theorem dX3_readRoad_77 : decode cX3_readRoad 77 = .ok (.ior, 1) := by decide +kernel
theorem dX3_readRoad_78 : decode cX3_readRoad 78 = .ok (.iastore, 1) := by decide +kernel
theorem dX3_readRoad_79 : decode cX3_readRoad 79 = .ok (.aload_n 2, 1) := by decide +kernel
theorem dX3_readRoad_80 : decode cX3_readRoad 80 = .ok (.getfield 141, 3) := by decide +kernel
theorem dX3_readRoad_83 : decode cX3_readRoad 83 = .ok (.iload 4, 2) := by decide +kernel
theorem dX3_readRoad_85 : decode cX3_readRoad 85 = .ok (.dup2, 1) := by decide +kernel
theorem dX3_readRoad_86 : decode cX3_readRoad 86 = .ok (.iaload, 1) := by decide +kernel
theorem dX3_readRoad_87 : decode cX3_readRoad 87 = .ok (.iconst 1, 1) := by decide +kernel
theorem dX3_readRoad_88 : decode cX3_readRoad 88 = .ok (.iload_n 3, 1) := by decide +kernel
theorem dX3_readRoad_89 : decode cX3_readRoad 89 = .ok (.ishl, 1) := by decide +kernel
theorem dX3_readRoad_90 : decode cX3_readRoad 90 = .ok (.ior, 1) := by decide +kernel
theorem dX3_readRoad_91 : decode cX3_readRoad 91 = .ok (.iastore, 1) := by decide +kernel
theorem dX3_readRoad_92 : decode cX3_readRoad 92 = .ok (.iconst 1, 1) := by decide +kernel
theorem dX3_readRoad_93 : decode cX3_readRoad 93 = .ok (.ireturn, 1) := by decide +kernel
theorem dX3_readPerson_0 : decode cX3_readPerson 0 = .ok (.aload_n 2, 1) := by decide +kernel
theorem dX3_readPerson_1 : decode cX3_readPerson 1 = .ok (.getfield 69, 3) := by decide +kernel
theorem dX3_readPerson_4 : decode cX3_readPerson 4 = .ok (.istore_n 3, 1) := by decide +kernel
theorem dX3_readPerson_5 : decode cX3_readPerson 5 = .ok (.iload_n 3, 1) := by decide +kernel
theorem dX3_readPerson_6 : decode cX3_readPerson 6 = .ok (.bipush 6, 2) := by decide +kernel
theorem dX3_readPerson_8 : decode cX3_readPerson 8 = .ok (.if_icmp .lt 9, 3) := by decide +kernel
theorem dX3_readPerson_11 : decode cX3_readPerson 11 = .ok (.aload_n 1, 1) := by decide +kernel
theorem dX3_readPerson_12 : decode cX3_readPerson 12 = .ok (.iconst 5, 1) := by decide +kernel
theorem dX3_readPerson_13 : decode cX3_readPerson 13 = .ok (.invokevirtual 105, 3) := by decide +kernel
theorem dX3_readPerson_16 : decode cX3_readPerson 16 = .ok (.ireturn, 1) := by decide +kernel
theorem dX3_readPerson_17 : decode cX3_readPerson 17 = .ok (.aload_n 1, 1) := by decide +kernel
theorem dX3_readPerson_18 : decode cX3_readPerson 18 = .ok (.invokevirtual 112, 3) := by decide +kernel
theorem dX3_readPerson_21 : decode cX3_readPerson 21 = .ok (.aload_n 1, 1) := by decide +kernel
theorem dX3_readPerson_22 : decode cX3_readPerson 22 = .ok (.aload_n 2, 1) := by decide +kernel
theorem dX3_readPerson_23 : decode cX3_readPerson 23 = .ok (.invokestatic 115, 3) := by decide +kernel
theorem dX3_readPerson_26 : decode cX3_readPerson 26 = .ok (.ifCond .ne 5, 3) := by decide +kernel
theorem dX3_readPerson_29 : decode cX3_readPerson 29 = .ok (.iconst 0, 1) := by decide +kernel
theorem dX3_readPerson_30 : decode cX3_readPerson 30 = .ok (.ireturn, 1) := by decide +kernel
theorem dX3_readPerson_31 : decode cX3_readPerson 31 = .ok (.aload_n 2, 1) := by decide +kernel
theorem dX3_readPerson_32 : decode cX3_readPerson 32 = .ok (.getfield 148, 3) := by decide +kernel
theorem dX3_readPerson_35 : decode cX3_readPerson 35 = .ok (.iload_n 3, 1) := by decide +kernel
theorem dX3_readPerson_36 : decode cX3_readPerson 36 = .ok (.aload_n 1, 1) := by decide +kernel
theorem dX3_readPerson_37 : decode cX3_readPerson 37 = .ok (.getfield 122, 3) := by decide +kernel
theorem dX3_readPerson_40 : decode cX3_readPerson 40 = .ok (.lastore, 1) := by decide +kernel
theorem dX3_readPerson_41 : decode cX3_readPerson 41 = .ok (.aload_n 1, 1) := by decide +kernel
theorem dX3_readPerson_42 : decode cX3_readPerson 42 = .ok (.invokevirtual 112, 3) := by decide +kernel
theorem dX3_readPerson_45 : decode cX3_readPerson 45 = .ok (.aload_n 2, 1) := by decide +kernel
theorem dX3_readPerson_46 : decode cX3_readPerson 46 = .ok (.getfield 151, 3) := by decide +kernel
theorem dX3_readPerson_49 : decode cX3_readPerson 49 = .ok (.iload_n 3, 1) := by decide +kernel
theorem dX3_readPerson_50 : decode cX3_readPerson 50 = .ok (.aload_n 1, 1) := by decide +kernel
theorem dX3_readPerson_51 : decode cX3_readPerson 51 = .ok (.invokestatic 154, 3) := by decide +kernel
theorem dX3_readPerson_54 : decode cX3_readPerson 54 = .ok (.iastore, 1) := by decide +kernel
theorem dX3_readPerson_55 : decode cX3_readPerson 55 = .ok (.aload_n 2, 1) := by decide +kernel
theorem dX3_readPerson_56 : decode cX3_readPerson 56 = .ok (.getfield 151, 3) := by decide +kernel
theorem dX3_readPerson_59 : decode cX3_readPerson 59 = .ok (.iload_n 3, 1) := by decide +kernel
theorem dX3_readPerson_60 : decode cX3_readPerson 60 = .ok (.iaload, 1) := by decide +kernel
theorem dX3_readPerson_61 : decode cX3_readPerson 61 = .ok (.iconst (-1), 1) := by decide +kernel
theorem dX3_readPerson_62 : decode cX3_readPerson 62 = .ok (.if_icmp .ne 9, 3) := by decide +kernel
theorem dX3_readPerson_65 : decode cX3_readPerson 65 = .ok (.aload_n 1, 1) := by decide +kernel
theorem dX3_readPerson_66 : decode cX3_readPerson 66 = .ok (.iconst 1, 1) := by decide +kernel
theorem dX3_readPerson_67 : decode cX3_readPerson 67 = .ok (.invokevirtual 105, 3) := by decide +kernel
theorem dX3_readPerson_70 : decode cX3_readPerson 70 = .ok (.ireturn, 1) := by decide +kernel
theorem dX3_readPerson_71 : decode cX3_readPerson 71 = .ok (.aload_n 1, 1) := by decide +kernel
theorem dX3_readPerson_72 : decode cX3_readPerson 72 = .ok (.invokevirtual 112, 3) := by decide +kernel
theorem dX3_readPerson_75 : decode cX3_readPerson 75 = .ok (.aload_n 1, 1) := by decide +kernel
theorem dX3_readPerson_76 : decode cX3_readPerson 76 = .ok (.getstatic 158, 3) := by decide +kernel
theorem dX3_readPerson_79 : decode cX3_readPerson 79 = .ok (.invokevirtual 47, 3) := by decide +kernel
theorem dX3_readPerson_82 : decode cX3_readPerson 82 = .ok (.ifCond .ne 5, 3) := by decide +kernel
theorem dX3_readPerson_85 : decode cX3_readPerson 85 = .ok (.iconst 0, 1) := by decide +kernel
theorem dX3_readPerson_86 : decode cX3_readPerson 86 = .ok (.ireturn, 1) := by decide +kernel
theorem dX3_readPerson_87 : decode cX3_readPerson 87 = .ok (.aload_n 2, 1) := by decide +kernel
theorem dX3_readPerson_88 : decode cX3_readPerson 88 = .ok (.getfield 161, 3) := by decide +kernel
theorem dX3_readPerson_91 : decode cX3_readPerson 91 = .ok (.iload_n 3, 1) := by decide +kernel
theorem dX3_readPerson_92 : decode cX3_readPerson 92 = .ok (.aload_n 1, 1) := by decide +kernel
theorem dX3_readPerson_93 : decode cX3_readPerson 93 = .ok (.aload_n 2, 1) := by decide +kernel
theorem dX3_readPerson_94 : decode cX3_readPerson 94 = .ok (.invokevirtual 137, 3) := by decide +kernel
theorem dX3_readPerson_97 : decode cX3_readPerson 97 = .ok (.iastore, 1) := by decide +kernel
theorem dX3_readPerson_98 : decode cX3_readPerson 98 = .ok (.aload_n 2, 1) := by decide +kernel
theorem dX3_readPerson_99 : decode cX3_readPerson 99 = .ok (.getfield 161, 3) := by decide +kernel
theorem dX3_readPerson_102 : decode cX3_readPerson 102 = .ok (.iload_n 3, 1) := by decide +kernel
theorem dX3_readPerson_103 : decode cX3_readPerson 103 = .ok (.iaload, 1) := by decide +kernel
theorem dX3_readPerson_104 : decode cX3_readPerson 104 = .ok (.iconst (-1), 1) := by decide +kernel
theorem dX3_readPerson_105 : decode cX3_readPerson 105 = .ok (.if_icmp .ne 5, 3) := by decide +kernel
theorem dX3_readPerson_108 : decode cX3_readPerson 108 = .ok (.iconst 0, 1) := by decide +kernel
theorem dX3_readPerson_109 : decode cX3_readPerson 109 = .ok (.ireturn, 1) := by decide +kernel
theorem dX3_readPerson_110 : decode cX3_readPerson 110 = .ok (.aload_n 1, 1) := by decide +kernel
theorem dX3_readPerson_111 : decode cX3_readPerson 111 = .ok (.invokevirtual 112, 3) := by decide +kernel
theorem dX3_readPerson_114 : decode cX3_readPerson 114 = .ok (.aload_n 2, 1) := by decide +kernel
theorem dX3_readPerson_115 : decode cX3_readPerson 115 = .ok (.dup, 1) := by decide +kernel
theorem dX3_readPerson_116 : decode cX3_readPerson 116 = .ok (.getfield 69, 3) := by decide +kernel
theorem dX3_readPerson_119 : decode cX3_readPerson 119 = .ok (.iconst 1, 1) := by decide +kernel
theorem dX3_readPerson_120 : decode cX3_readPerson 120 = .ok (.iadd, 1) := by decide +kernel
theorem dX3_readPerson_121 : decode cX3_readPerson 121 = .ok (.putfield 69, 3) := by decide +kernel
theorem dX3_readPerson_124 : decode cX3_readPerson 124 = .ok (.iconst 1, 1) := by decide +kernel
theorem dX3_readPerson_125 : decode cX3_readPerson 125 = .ok (.ireturn, 1) := by decide +kernel
theorem dX3_readGoods_0 : decode cX3_readGoods 0 = .ok (.aload_n 1, 1) := by decide +kernel
theorem dX3_readGoods_1 : decode cX3_readGoods 1 = .ok (.getstatic 164, 3) := by decide +kernel
theorem dX3_readGoods_4 : decode cX3_readGoods 4 = .ok (.invokevirtual 47, 3) := by decide +kernel
theorem dX3_readGoods_7 : decode cX3_readGoods 7 = .ok (.ifCond .ne 5, 3) := by decide +kernel
theorem dX3_readGoods_10 : decode cX3_readGoods 10 = .ok (.iconst 0, 1) := by decide +kernel
theorem dX3_readGoods_11 : decode cX3_readGoods 11 = .ok (.ireturn, 1) := by decide +kernel
theorem dX3_readGoods_12 : decode cX3_readGoods 12 = .ok (.aload_n 2, 1) := by decide +kernel
theorem dX3_readGoods_13 : decode cX3_readGoods 13 = .ok (.getfield 167, 3) := by decide +kernel
theorem dX3_readGoods_16 : decode cX3_readGoods 16 = .ok (.iload_n 3, 1) := by decide +kernel
theorem dX3_readGoods_17 : decode cX3_readGoods 17 = .ok (.aload_n 1, 1) := by decide +kernel
theorem dX3_readGoods_18 : decode cX3_readGoods 18 = .ok (.iconst 0, 1) := by decide +kernel
theorem dX3_readGoods_19 : decode cX3_readGoods 19 = .ok (.bipush 30, 2) := by decide +kernel
theorem dX3_readGoods_21 : decode cX3_readGoods 21 = .ok (.invokevirtual 133, 3) := by decide +kernel
theorem dX3_readGoods_24 : decode cX3_readGoods 24 = .ok (.iastore, 1) := by decide +kernel
theorem dX3_readGoods_25 : decode cX3_readGoods 25 = .ok (.aload_n 2, 1) := by decide +kernel
theorem dX3_readGoods_26 : decode cX3_readGoods 26 = .ok (.getfield 167, 3) := by decide +kernel
theorem dX3_readGoods_29 : decode cX3_readGoods 29 = .ok (.iload_n 3, 1) := by decide +kernel
theorem dX3_readGoods_30 : decode cX3_readGoods 30 = .ok (.iaload, 1) := by decide +kernel
theorem dX3_readGoods_31 : decode cX3_readGoods 31 = .ok (.iconst (-1), 1) := by decide +kernel
theorem dX3_readGoods_32 : decode cX3_readGoods 32 = .ok (.if_icmp .eq 13, 3) := by decide +kernel
theorem dX3_readGoods_35 : decode cX3_readGoods 35 = .ok (.aload_n 1, 1) := by decide +kernel
theorem dX3_readGoods_36 : decode cX3_readGoods 36 = .ok (.getstatic 170, 3) := by decide +kernel
theorem dX3_readGoods_39 : decode cX3_readGoods 39 = .ok (.invokevirtual 47, 3) := by decide +kernel
theorem dX3_readGoods_42 : decode cX3_readGoods 42 = .ok (.ifCond .ne 5, 3) := by decide +kernel
theorem dX3_readGoods_45 : decode cX3_readGoods 45 = .ok (.iconst 0, 1) := by decide +kernel
theorem dX3_readGoods_46 : decode cX3_readGoods 46 = .ok (.ireturn, 1) := by decide +kernel
theorem dX3_readGoods_47 : decode cX3_readGoods 47 = .ok (.aload_n 2, 1) := by decide +kernel
theorem dX3_readGoods_48 : decode cX3_readGoods 48 = .ok (.getfield 173, 3) := by decide +kernel
theorem dX3_readGoods_51 : decode cX3_readGoods 51 = .ok (.iload_n 3, 1) := by decide +kernel
theorem dX3_readGoods_52 : decode cX3_readGoods 52 = .ok (.aload_n 1, 1) := by decide +kernel
theorem dX3_readGoods_53 : decode cX3_readGoods 53 = .ok (.iconst 0, 1) := by decide +kernel
theorem dX3_readGoods_54 : decode cX3_readGoods 54 = .ok (.bipush 99, 2) := by decide +kernel
theorem dX3_readGoods_56 : decode cX3_readGoods 56 = .ok (.invokevirtual 133, 3) := by decide +kernel
theorem dX3_readGoods_59 : decode cX3_readGoods 59 = .ok (.iastore, 1) := by decide +kernel
theorem dX3_readGoods_60 : decode cX3_readGoods 60 = .ok (.aload_n 2, 1) := by decide +kernel
theorem dX3_readGoods_61 : decode cX3_readGoods 61 = .ok (.getfield 173, 3) := by decide +kernel
theorem dX3_readGoods_64 : decode cX3_readGoods 64 = .ok (.iload_n 3, 1) := by decide +kernel
theorem dX3_readGoods_65 : decode cX3_readGoods 65 = .ok (.iaload, 1) := by decide +kernel
theorem dX3_readGoods_66 : decode cX3_readGoods 66 = .ok (.iconst (-1), 1) := by decide +kernel
theorem dX3_readGoods_67 : decode cX3_readGoods 67 = .ok (.if_icmp .eq 7, 3) := by decide +kernel
theorem dX3_readGoods_70 : decode cX3_readGoods 70 = .ok (.iconst 1, 1) := by decide +kernel
theorem dX3_readGoods_71 : decode cX3_readGoods 71 = .ok (.goto 4, 3) := by decide +kernel
theorem dX3_readGoods_74 : decode cX3_readGoods 74 = .ok (.iconst 0, 1) := by decide +kernel
theorem dX3_readGoods_75 : decode cX3_readGoods 75 = .ok (.ireturn, 1) := by decide +kernel
theorem dX3_kindHere_0 : decode cX3_kindHere 0 = .ok (.aload_n 0, 1) := by decide +kernel
theorem dX3_kindHere_1 : decode cX3_kindHere 1 = .ok (.getfield 31, 3) := by decide +kernel
theorem dX3_kindHere_4 : decode cX3_kindHere 4 = .ok (.getstatic 176, 3) := by decide +kernel
theorem dX3_kindHere_7 : decode cX3_kindHere 7 = .ok (.if_acmp .ne 5, 3) := by decide +kernel
theorem dX3_kindHere_10 : decode cX3_kindHere 10 = .ok (.iconst 0, 1) := by decide +kernel
theorem dX3_kindHere_11 : decode cX3_kindHere 11 = .ok (.ireturn, 1) := by decide +kernel
theorem dX3_kindHere_12 : decode cX3_kindHere 12 = .ok (.aload_n 0, 1) := by decide +kernel
theorem dX3_kindHere_13 : decode cX3_kindHere 13 = .ok (.getfield 31, 3) := by decide +kernel
theorem dX3_kindHere_16 : decode cX3_kindHere 16 = .ok (.getstatic 179, 3) := by decide +kernel
theorem dX3_kindHere_19 : decode cX3_kindHere 19 = .ok (.if_acmp .ne 5, 3) := by decide +kernel
theorem dX3_kindHere_22 : decode cX3_kindHere 22 = .ok (.iconst 1, 1) := by decide +kernel
theorem dX3_kindHere_23 : decode cX3_kindHere 23 = .ok (.ireturn, 1) := by decide +kernel
theorem dX3_kindHere_24 : decode cX3_kindHere 24 = .ok (.aload_n 0, 1) := by decide +kernel
theorem dX3_kindHere_25 : decode cX3_kindHere 25 = .ok (.getfield 31, 3) := by decide +kernel
theorem dX3_kindHere_28 : decode cX3_kindHere 28 = .ok (.getstatic 182, 3) := by decide +kernel
theorem dX3_kindHere_31 : decode cX3_kindHere 31 = .ok (.if_acmp .ne 5, 3) := by decide +kernel
theorem dX3_kindHere_34 : decode cX3_kindHere 34 = .ok (.iconst 2, 1) := by decide +kernel
theorem dX3_kindHere_35 : decode cX3_kindHere 35 = .ok (.ireturn, 1) := by decide +kernel
theorem dX3_kindHere_36 : decode cX3_kindHere 36 = .ok (.aload_n 0, 1) := by decide +kernel
theorem dX3_kindHere_37 : decode cX3_kindHere 37 = .ok (.getfield 31, 3) := by decide +kernel
theorem dX3_kindHere_40 : decode cX3_kindHere 40 = .ok (.getstatic 185, 3) := by decide +kernel
theorem dX3_kindHere_43 : decode cX3_kindHere 43 = .ok (.if_acmp .ne 7, 3) := by decide +kernel
theorem dX3_kindHere_46 : decode cX3_kindHere 46 = .ok (.iconst 3, 1) := by decide +kernel
theorem dX3_kindHere_47 : decode cX3_kindHere 47 = .ok (.goto 4, 3) := by decide +kernel
theorem dX3_kindHere_50 : decode cX3_kindHere 50 = .ok (.iconst (-1), 1) := by decide +kernel
theorem dX3_kindHere_51 : decode cX3_kindHere 51 = .ok (.ireturn, 1) := by decide +kernel
theorem dX3_isNewName_0 : decode cX3_isNewName 0 = .ok (.aload_n 0, 1) := by decide +kernel
theorem dX3_isNewName_1 : decode cX3_isNewName 1 = .ok (.getfield 31, 3) := by decide +kernel
theorem dX3_isNewName_4 : decode cX3_isNewName 4 = .ok (.getstatic 188, 3) := by decide +kernel
theorem dX3_isNewName_7 : decode cX3_isNewName 7 = .ok (.if_acmp .eq 9, 3) := by decide +kernel
theorem dX3_isNewName_10 : decode cX3_isNewName 10 = .ok (.aload_n 0, 1) := by decide +kernel
theorem dX3_isNewName_11 : decode cX3_isNewName 11 = .ok (.iconst 1, 1) := by decide +kernel
theorem dX3_isNewName_12 : decode cX3_isNewName 12 = .ok (.invokevirtual 105, 3) := by decide +kernel
theorem dX3_isNewName_15 : decode cX3_isNewName 15 = .ok (.ireturn, 1) := by decide +kernel
theorem dX3_isNewName_16 : decode cX3_isNewName 16 = .ok (.aload_n 1, 1) := by decide +kernel
theorem dX3_isNewName_17 : decode cX3_isNewName 17 = .ok (.aload_n 0, 1) := by decide +kernel
theorem dX3_isNewName_18 : decode cX3_isNewName 18 = .ok (.getfield 122, 3) := by decide +kernel
theorem dX3_isNewName_21 : decode cX3_isNewName 21 = .ok (.invokevirtual 191, 3) := by decide +kernel
theorem dX3_isNewName_24 : decode cX3_isNewName 24 = .ok (.iconst (-1), 1) := by decide +kernel
theorem dX3_isNewName_25 : decode cX3_isNewName 25 = .ok (.if_icmp .ne 15, 3) := by decide +kernel
theorem dX3_isNewName_28 : decode cX3_isNewName 28 = .ok (.aload_n 1, 1) := by decide +kernel
theorem dX3_isNewName_29 : decode cX3_isNewName 29 = .ok (.aload_n 0, 1) := by decide +kernel
theorem dX3_isNewName_30 : decode cX3_isNewName 30 = .ok (.getfield 122, 3) := by decide +kernel
theorem dX3_isNewName_33 : decode cX3_isNewName 33 = .ok (.invokevirtual 195, 3) := by decide +kernel
theorem dX3_isNewName_36 : decode cX3_isNewName 36 = .ok (.iconst (-1), 1) := by decide +kernel
theorem dX3_isNewName_37 : decode cX3_isNewName 37 = .ok (.if_icmp .eq 9, 3) := by decide +kernel
theorem dX3_isNewName_40 : decode cX3_isNewName 40 = .ok (.aload_n 0, 1) := by decide +kernel
theorem dX3_isNewName_41 : decode cX3_isNewName 41 = .ok (.iconst 3, 1) := by decide +kernel
theorem dX3_isNewName_42 : decode cX3_isNewName 42 = .ok (.invokevirtual 105, 3) := by decide +kernel
theorem dX3_isNewName_45 : decode cX3_isNewName 45 = .ok (.ireturn, 1) := by decide +kernel
theorem dX3_isNewName_46 : decode cX3_isNewName 46 = .ok (.iconst 1, 1) := by decide +kernel
theorem dX3_isNewName_47 : decode cX3_isNewName 47 = .ok (.ireturn, 1) := by decide +kernel
theorem dX3_readGrows_0 : decode cX3_readGrows 0 = .ok (.aload_n 0, 1) := by decide +kernel
theorem dX3_readGrows_1 : decode cX3_readGrows 1 = .ok (.getfield 9, 3) := by decide +kernel
theorem dX3_readGrows_4 : decode cX3_readGrows 4 = .ok (.ifCond .eq 9, 3) := by decide +kernel
theorem dX3_readGrows_7 : decode cX3_readGrows 7 = .ok (.aload_n 1, 1) := by decide +kernel
theorem dX3_readGrows_8 : decode cX3_readGrows 8 = .ok (.iconst 3, 1) := by decide +kernel
theorem dX3_readGrows_9 : decode cX3_readGrows 9 = .ok (.invokevirtual 105, 3) := by decide +kernel
theorem dX3_readGrows_12 : decode cX3_readGrows 12 = .ok (.ireturn, 1) := by decide +kernel
theorem dX3_readGrows_13 : decode cX3_readGrows 13 = .ok (.aload_n 0, 1) := by decide +kernel
theorem dX3_readGrows_14 : decode cX3_readGrows 14 = .ok (.iconst 1, 1) := by decide +kernel
theorem dX3_readGrows_15 : decode cX3_readGrows 15 = .ok (.putfield 9, 3) := by decide +kernel
theorem dX3_readGrows_18 : decode cX3_readGrows 18 = .ok (.aload_n 1, 1) := by decide +kernel
theorem dX3_readGrows_19 : decode cX3_readGrows 19 = .ok (.invokevirtual 112, 3) := by decide +kernel
theorem dX3_readGrows_22 : decode cX3_readGrows 22 = .ok (.aload_n 2, 1) := by decide +kernel
theorem dX3_readGrows_23 : decode cX3_readGrows 23 = .ok (.aload_n 1, 1) := by decide +kernel
theorem dX3_readGrows_24 : decode cX3_readGrows 24 = .ok (.iconst 0, 1) := by decide +kernel
theorem dX3_readGrows_25 : decode cX3_readGrows 25 = .ok (.iconst 5, 1) := by decide +kernel
theorem dX3_readGrows_26 : decode cX3_readGrows 26 = .ok (.invokevirtual 133, 3) := by decide +kernel
theorem dX3_readGrows_29 : decode cX3_readGrows 29 = .ok (.putfield 198, 3) := by decide +kernel
theorem dX3_readGrows_32 : decode cX3_readGrows 32 = .ok (.aload_n 2, 1) := by decide +kernel
theorem dX3_readGrows_33 : decode cX3_readGrows 33 = .ok (.getfield 198, 3) := by decide +kernel
theorem dX3_readGrows_36 : decode cX3_readGrows 36 = .ok (.iconst (-1), 1) := by decide +kernel
theorem dX3_readGrows_37 : decode cX3_readGrows 37 = .ok (.if_icmp .eq 7, 3) := by decide +kernel
theorem dX3_readGrows_40 : decode cX3_readGrows 40 = .ok (.iconst 1, 1) := by decide +kernel
theorem dX3_readGrows_41 : decode cX3_readGrows 41 = .ok (.goto 4, 3) := by decide +kernel
theorem dX3_readGrows_44 : decode cX3_readGrows 44 = .ok (.iconst 0, 1) := by decide +kernel
theorem dX3_readGrows_45 : decode cX3_readGrows 45 = .ok (.ireturn, 1) := by decide +kernel
theorem dX3_readInch_0 : decode cX3_readInch 0 = .ok (.aload_n 0, 1) := by decide +kernel
theorem dX3_readInch_1 : decode cX3_readInch 1 = .ok (.getfield 15, 3) := by decide +kernel
theorem dX3_readInch_4 : decode cX3_readInch 4 = .ok (.ifCond .eq 9, 3) := by decide +kernel
theorem dX3_readInch_7 : decode cX3_readInch 7 = .ok (.aload_n 1, 1) := by decide +kernel
theorem dX3_readInch_8 : decode cX3_readInch 8 = .ok (.iconst 3, 1) := by decide +kernel
theorem dX3_readInch_9 : decode cX3_readInch 9 = .ok (.invokevirtual 105, 3) := by decide +kernel
theorem dX3_readInch_12 : decode cX3_readInch 12 = .ok (.ireturn, 1) := by decide +kernel
theorem dX3_readInch_13 : decode cX3_readInch 13 = .ok (.aload_n 0, 1) := by decide +kernel
theorem dX3_readInch_14 : decode cX3_readInch 14 = .ok (.iconst 1, 1) := by decide +kernel
theorem dX3_readInch_15 : decode cX3_readInch 15 = .ok (.putfield 15, 3) := by decide +kernel
theorem dX3_readInch_18 : decode cX3_readInch 18 = .ok (.aload_n 1, 1) := by decide +kernel
theorem dX3_readInch_19 : decode cX3_readInch 19 = .ok (.invokevirtual 112, 3) := by decide +kernel
theorem dX3_readInch_22 : decode cX3_readInch 22 = .ok (.aload_n 2, 1) := by decide +kernel
theorem dX3_readInch_23 : decode cX3_readInch 23 = .ok (.aload_n 1, 1) := by decide +kernel
theorem dX3_readInch_24 : decode cX3_readInch 24 = .ok (.iconst 1, 1) := by decide +kernel
theorem dX3_readInch_25 : decode cX3_readInch 25 = .ok (.bipush 9, 2) := by decide +kernel
theorem dX3_readInch_27 : decode cX3_readInch 27 = .ok (.invokevirtual 133, 3) := by decide +kernel
theorem dX3_readInch_30 : decode cX3_readInch 30 = .ok (.putfield 201, 3) := by decide +kernel
theorem dX3_readInch_33 : decode cX3_readInch 33 = .ok (.aload_n 2, 1) := by decide +kernel
theorem dX3_readInch_34 : decode cX3_readInch 34 = .ok (.getfield 201, 3) := by decide +kernel
theorem dX3_readInch_37 : decode cX3_readInch 37 = .ok (.iconst (-1), 1) := by decide +kernel
theorem dX3_readInch_38 : decode cX3_readInch 38 = .ok (.if_icmp .eq 7, 3) := by decide +kernel
theorem dX3_readInch_41 : decode cX3_readInch 41 = .ok (.iconst 1, 1) := by decide +kernel
theorem dX3_readInch_42 : decode cX3_readInch 42 = .ok (.goto 4, 3) := by decide +kernel
theorem dX3_readInch_45 : decode cX3_readInch 45 = .ok (.iconst 0, 1) := by decide +kernel
theorem dX3_readInch_46 : decode cX3_readInch 46 = .ok (.ireturn, 1) := by decide +kernel
theorem dX3_beginReads_0 : decode cX3_beginReads 0 = .ok (.aload_n 0, 1) := by decide +kernel
theorem dX3_beginReads_1 : decode cX3_beginReads 1 = .ok (.getfield 18, 3) := by decide +kernel
theorem dX3_beginReads_4 : decode cX3_beginReads 4 = .ok (.ifCond .eq 9, 3) := by decide +kernel
theorem dX3_beginReads_7 : decode cX3_beginReads 7 = .ok (.aload_n 1, 1) := by decide +kernel
theorem dX3_beginReads_8 : decode cX3_beginReads 8 = .ok (.iconst 3, 1) := by decide +kernel
theorem dX3_beginReads_9 : decode cX3_beginReads 9 = .ok (.invokevirtual 105, 3) := by decide +kernel
theorem dX3_beginReads_12 : decode cX3_beginReads 12 = .ok (.ireturn, 1) := by decide +kernel
theorem dX3_beginReads_13 : decode cX3_beginReads 13 = .ok (.aload_n 0, 1) := by decide +kernel
theorem dX3_beginReads_14 : decode cX3_beginReads 14 = .ok (.iconst 1, 1) := by decide +kernel
theorem dX3_beginReads_15 : decode cX3_beginReads 15 = .ok (.putfield 18, 3) := by decide +kernel
theorem dX3_beginReads_18 : decode cX3_beginReads 18 = .ok (.aload_n 1, 1) := by decide +kernel
theorem dX3_beginReads_19 : decode cX3_beginReads 19 = .ok (.invokevirtual 112, 3) := by decide +kernel
theorem dX3_beginReads_22 : decode cX3_beginReads 22 = .ok (.aload_n 2, 1) := by decide +kernel
theorem dX3_beginReads_23 : decode cX3_beginReads 23 = .ok (.getfield 95, 3) := by decide +kernel
theorem dX3_beginReads_26 : decode cX3_beginReads 26 = .ok (.iconst 0, 1) := by decide +kernel
theorem dX3_beginReads_27 : decode cX3_beginReads 27 = .ok (.putfield 204, 3) := by decide +kernel
theorem dX3_beginReads_30 : decode cX3_beginReads 30 = .ok (.iconst 1, 1) := by decide +kernel
theorem dX3_beginReads_31 : decode cX3_beginReads 31 = .ok (.ireturn, 1) := by decide +kernel
theorem dX4_copy_0 : decode cX4_copy 0 = .ok (.aload_n 0, 1) := by decide +kernel
theorem dX4_copy_1 : decode cX4_copy 1 = .ok (.aload_n 1, 1) := by decide +kernel
theorem dX4_copy_2 : decode cX4_copy 2 = .ok (.getfield 18, 3) := by decide +kernel
theorem dX4_copy_5 : decode cX4_copy 5 = .ok (.putfield 18, 3) := by decide +kernel
theorem dX4_copy_8 : decode cX4_copy 8 = .ok (.aload_n 1, 1) := by decide +kernel
theorem dX4_copy_9 : decode cX4_copy 9 = .ok (.getfield 9, 3) := by decide +kernel
theorem dX4_copy_12 : decode cX4_copy 12 = .ok (.iconst 0, 1) := by decide +kernel
theorem dX4_copy_13 : decode cX4_copy 13 = .ok (.aload_n 0, 1) := by decide +kernel
theorem dX4_copy_14 : decode cX4_copy 14 = .ok (.getfield 9, 3) := by decide +kernel
theorem dX4_copy_17 : decode cX4_copy 17 = .ok (.iconst 0, 1) := by decide +kernel
theorem dX4_copy_18 : decode cX4_copy 18 = .ok (.aload_n 0, 1) := by decide +kernel
theorem dX4_copy_19 : decode cX4_copy 19 = .ok (.getfield 18, 3) := by decide +kernel
theorem dX4_copy_22 : decode cX4_copy 22 = .ok (.invokestatic 26, 3) := by decide +kernel
theorem dX4_copy_25 : decode cX4_copy 25 = .ok (.return_, 1) := by decide +kernel
theorem dX4_readWhole_0 : decode cX4_readWhole 0 = .ok (.aload_n 0, 1) := by decide +kernel
theorem dX4_readWhole_1 : decode cX4_readWhole 1 = .ok (.aload_n 1, 1) := by decide +kernel
theorem dX4_readWhole_2 : decode cX4_readWhole 2 = .ok (.iload_n 2, 1) := by decide +kernel
theorem dX4_readWhole_3 : decode cX4_readWhole 3 = .ok (.invokevirtual 32, 3) := by decide +kernel
theorem dX4_readWhole_6 : decode cX4_readWhole 6 = .ok (.ifCond .ne 5, 3) := by decide +kernel
theorem dX4_readWhole_9 : decode cX4_readWhole 9 = .ok (.iconst 0, 1) := by decide +kernel
theorem dX4_readWhole_10 : decode cX4_readWhole 10 = .ok (.ireturn, 1) := by decide +kernel
theorem dX4_readWhole_11 : decode cX4_readWhole 11 = .ok (.iconst 0, 1) := by decide +kernel
theorem dX4_readWhole_12 : decode cX4_readWhole 12 = .ok (.istore_n 3, 1) := by decide +kernel
theorem dX4_readWhole_13 : decode cX4_readWhole 13 = .ok (.iload_n 3, 1) := by decide +kernel
theorem dX4_readWhole_14 : decode cX4_readWhole 14 = .ok (.sipush 1000, 3) := by decide +kernel
theorem dX4_readWhole_17 : decode cX4_readWhole 17 = .ok (.if_icmp .ge 69, 3) := by decide +kernel
theorem dX4_readWhole_20 : decode cX4_readWhole 20 = .ok (.aload_n 1, 1) := by decide +kernel
theorem dX4_readWhole_21 : decode cX4_readWhole 21 = .ok (.getfield 36, 3) := by decide +kernel
theorem dX4_readWhole_24 : decode cX4_readWhole 24 = .ok (.getstatic 42, 3) := by decide +kernel
theorem dX4_readWhole_27 : decode cX4_readWhole 27 = .ok (.if_acmp .eq 13, 3) := by decide +kernel
theorem dX4_readWhole_30 : decode cX4_readWhole 30 = .ok (.aload_n 1, 1) := by decide +kernel
theorem dX4_readWhole_31 : decode cX4_readWhole 31 = .ok (.getfield 36, 3) := by decide +kernel
theorem dX4_readWhole_34 : decode cX4_readWhole 34 = .ok (.getstatic 47, 3) := by decide +kernel
theorem dX4_readWhole_37 : decode cX4_readWhole 37 = .ok (.if_acmp .ne 49, 3) := by decide +kernel
theorem dX4_readWhole_40 : decode cX4_readWhole 40 = .ok (.aload_n 1, 1) := by decide +kernel
theorem dX4_readWhole_41 : decode cX4_readWhole 41 = .ok (.getfield 36, 3) := by decide +kernel
theorem dX4_readWhole_44 : decode cX4_readWhole 44 = .ok (.getstatic 42, 3) := by decide +kernel
theorem dX4_readWhole_47 : decode cX4_readWhole 47 = .ok (.if_acmp .ne 8, 3) := by decide +kernel
theorem dX4_readWhole_50 : decode cX4_readWhole 50 = .ok (.bipush (-6), 2) := by decide +kernel
theorem dX4_readWhole_52 : decode cX4_readWhole 52 = .ok (.goto 5, 3) := by decide +kernel
theorem dX4_readWhole_55 : decode cX4_readWhole 55 = .ok (.bipush (-7), 2) := by decide +kernel
theorem dX4_readWhole_57 : decode cX4_readWhole 57 = .ok (.istore 4, 2) := by decide +kernel
theorem dX4_readWhole_59 : decode cX4_readWhole 59 = .ok (.aload_n 1, 1) := by decide +kernel
theorem dX4_readWhole_60 : decode cX4_readWhole 60 = .ok (.invokevirtual 50, 3) := by decide +kernel
theorem dX4_readWhole_63 : decode cX4_readWhole 63 = .ok (.aload_n 0, 1) := by decide +kernel
theorem dX4_readWhole_64 : decode cX4_readWhole 64 = .ok (.aload_n 1, 1) := by decide +kernel
theorem dX4_readWhole_65 : decode cX4_readWhole 65 = .ok (.iload_n 2, 1) := by decide +kernel
theorem dX4_readWhole_66 : decode cX4_readWhole 66 = .ok (.invokevirtual 32, 3) := by decide +kernel
theorem dX4_readWhole_69 : decode cX4_readWhole 69 = .ok (.ifCond .ne 5, 3) := by decide +kernel
theorem dX4_readWhole_72 : decode cX4_readWhole 72 = .ok (.iconst 0, 1) := by decide +kernel
theorem dX4_readWhole_73 : decode cX4_readWhole 73 = .ok (.ireturn, 1) := by decide +kernel
theorem dX4_readWhole_74 : decode cX4_readWhole 74 = .ok (.aload_n 0, 1) := by decide +kernel
theorem dX4_readWhole_75 : decode cX4_readWhole 75 = .ok (.iload 4, 2) := by decide +kernel
theorem dX4_readWhole_77 : decode cX4_readWhole 77 = .ok (.invokevirtual 22, 3) := by decide +kernel
theorem dX4_readWhole_80 : decode cX4_readWhole 80 = .ok (.iinc 3 1, 3) := by decide +kernel
theorem dX4_readWhole_83 : decode cX4_readWhole 83 = .ok (.goto (-70), 3) := by decide +kernel
theorem dX4_readWhole_86 : decode cX4_readWhole 86 = .ok (.iconst 1, 1) := by decide +kernel
theorem dX4_readWhole_87 : decode cX4_readWhole 87 = .ok (.ireturn, 1) := by decide +kernel
theorem dX4_readTest_0 : decode cX4_readTest 0 = .ok (.aload_n 0, 1) := by decide +kernel
theorem dX4_readTest_1 : decode cX4_readTest 1 = .ok (.aload_n 1, 1) := by decide +kernel
theorem dX4_readTest_2 : decode cX4_readTest 2 = .ok (.iload_n 2, 1) := by decide +kernel
theorem dX4_readTest_3 : decode cX4_readTest 3 = .ok (.invokevirtual 53, 3) := by decide +kernel
theorem dX4_readTest_6 : decode cX4_readTest 6 = .ok (.ifCond .ne 5, 3) := by decide +kernel
theorem dX4_readTest_9 : decode cX4_readTest 9 = .ok (.iconst 0, 1) := by decide +kernel
theorem dX4_readTest_10 : decode cX4_readTest 10 = .ok (.ireturn, 1) := by decide +kernel
theorem dX4_readTest_11 : decode cX4_readTest 11 = .ok (.aload_n 1, 1) := by decide +kernel
theorem dX4_readTest_12 : decode cX4_readTest 12 = .ok (.getfield 36, 3) := by decide +kernel
theorem dX4_readTest_15 : decode cX4_readTest 15 = .ok (.getstatic 56, 3) := by decide +kernel
theorem dX4_readTest_18 : decode cX4_readTest 18 = .ok (.if_acmp .eq 15, 3) := by decide +kernel
theorem dX4_readTest_21 : decode cX4_readTest 21 = .ok (.aload_n 1, 1) := by decide +kernel
theorem dX4_readTest_22 : decode cX4_readTest 22 = .ok (.getfield 36, 3) := by decide +kernel
theorem dX4_readTest_25 : decode cX4_readTest 25 = .ok (.getstatic 59, 3) := by decide +kernel
theorem dX4_readTest_28 : decode cX4_readTest 28 = .ok (.if_acmp .eq 5, 3) := by decide +kernel
theorem dX4_readTest_31 : decode cX4_readTest 31 = .ok (.iconst 1, 1) := by decide +kernel
theorem dX4_readTest_32 : decode cX4_readTest 32 = .ok (.ireturn, 1) := by decide +kernel
theorem dX4_readTest_33 : decode cX4_readTest 33 = .ok (.aload_n 1, 1) := by decide +kernel
theorem dX4_readTest_34 : decode cX4_readTest 34 = .ok (.getfield 36, 3) := by decide +kernel
theorem dX4_readTest_37 : decode cX4_readTest 37 = .ok (.getstatic 56, 3) := by decide +kernel
theorem dX4_readTest_40 : decode cX4_readTest 40 = .ok (.if_acmp .ne 8, 3) := by decide +kernel
theorem dX4_readTest_43 : decode cX4_readTest 43 = .ok (.bipush (-8), 2) := by decide +kernel
theorem dX4_readTest_45 : decode cX4_readTest 45 = .ok (.goto 5, 3) := by decide +kernel
theorem dX4_readTest_48 : decode cX4_readTest 48 = .ok (.bipush (-9), 2) := by decide +kernel
theorem dX4_readTest_50 : decode cX4_readTest 50 = .ok (.istore_n 3, 1) := by decide +kernel
theorem dX4_readTest_51 : decode cX4_readTest 51 = .ok (.aload_n 1, 1) := by decide +kernel
theorem dX4_readTest_52 : decode cX4_readTest 52 = .ok (.invokevirtual 50, 3) := by decide +kernel
theorem dX4_readTest_55 : decode cX4_readTest 55 = .ok (.aload_n 0, 1) := by decide +kernel
theorem dX4_readTest_56 : decode cX4_readTest 56 = .ok (.aload_n 1, 1) := by decide +kernel
theorem dX4_readTest_57 : decode cX4_readTest 57 = .ok (.iload_n 2, 1) := by decide +kernel
theorem dX4_readTest_58 : decode cX4_readTest 58 = .ok (.invokevirtual 53, 3) := by decide +kernel
theorem dX4_readTest_61 : decode cX4_readTest 61 = .ok (.ifCond .ne 5, 3) := by decide +kernel
theorem dX4_readTest_64 : decode cX4_readTest 64 = .ok (.iconst 0, 1) := by decide +kernel
theorem dX4_readTest_65 : decode cX4_readTest 65 = .ok (.ireturn, 1) := by decide +kernel
theorem dX4_readTest_66 : decode cX4_readTest 66 = .ok (.aload_n 0, 1) := by decide +kernel
theorem dX4_readTest_67 : decode cX4_readTest 67 = .ok (.iload_n 3, 1) := by decide +kernel
theorem dX4_readTest_68 : decode cX4_readTest 68 = .ok (.invokevirtual 22, 3) := by decide +kernel
theorem dX4_readTest_71 : decode cX4_readTest 71 = .ok (.iconst 1, 1) := by decide +kernel
theorem dX4_readTest_72 : decode cX4_readTest 72 = .ok (.ireturn, 1) := by decide +kernel
theorem dX4_readSum_0 : decode cX4_readSum 0 = .ok (.aload_n 0, 1) := by decide +kernel
theorem dX4_readSum_1 : decode cX4_readSum 1 = .ok (.aload_n 1, 1) := by decide +kernel
theorem dX4_readSum_2 : decode cX4_readSum 2 = .ok (.iload_n 2, 1) := by decide +kernel
theorem dX4_readSum_3 : decode cX4_readSum 3 = .ok (.invokevirtual 62, 3) := by decide +kernel
theorem dX4_readSum_6 : decode cX4_readSum 6 = .ok (.ifCond .ne 5, 3) := by decide +kernel
theorem dX4_readSum_9 : decode cX4_readSum 9 = .ok (.iconst 0, 1) := by decide +kernel
theorem dX4_readSum_10 : decode cX4_readSum 10 = .ok (.ireturn, 1) := by decide +kernel
theorem dX4_readSum_11 : decode cX4_readSum 11 = .ok (.iconst 0, 1) := by decide +kernel
theorem dX4_readSum_12 : decode cX4_readSum 12 = .ok (.istore_n 3, 1) := by decide +kernel
theorem dX4_readSum_13 : decode cX4_readSum 13 = .ok (.iload_n 3, 1) := by decide +kernel
theorem dX4_readSum_14 : decode cX4_readSum 14 = .ok (.sipush 1000, 3) := by decide +kernel
theorem dX4_readSum_17 : decode cX4_readSum 17 = .ok (.if_icmp .ge 69, 3) := by decide +kernel
theorem dX4_readSum_20 : decode cX4_readSum 20 = .ok (.aload_n 1, 1) := by decide +kernel
theorem dX4_readSum_21 : decode cX4_readSum 21 = .ok (.getfield 36, 3) := by decide +kernel
theorem dX4_readSum_24 : decode cX4_readSum 24 = .ok (.getstatic 65, 3) := by decide +kernel
theorem dX4_readSum_27 : decode cX4_readSum 27 = .ok (.if_acmp .eq 13, 3) := by decide +kernel
theorem dX4_readSum_30 : decode cX4_readSum 30 = .ok (.aload_n 1, 1) := by decide +kernel
theorem dX4_readSum_31 : decode cX4_readSum 31 = .ok (.getfield 36, 3) := by decide +kernel
theorem dX4_readSum_34 : decode cX4_readSum 34 = .ok (.getstatic 68, 3) := by decide +kernel
theorem dX4_readSum_37 : decode cX4_readSum 37 = .ok (.if_acmp .ne 49, 3) := by decide +kernel
theorem dX4_readSum_40 : decode cX4_readSum 40 = .ok (.aload_n 1, 1) := by decide +kernel
theorem dX4_readSum_41 : decode cX4_readSum 41 = .ok (.getfield 36, 3) := by decide +kernel
theorem dX4_readSum_44 : decode cX4_readSum 44 = .ok (.getstatic 65, 3) := by decide +kernel
