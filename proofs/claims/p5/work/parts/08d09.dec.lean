theorem dX12_ask_16 : decode cX12_ask 16 = .ok (.istore 4, 2) := by decide +kernel
theorem dX12_ask_18 : decode cX12_ask 18 = .ok (.iload 4, 2) := by decide +kernel
theorem dX12_ask_20 : decode cX12_ask 20 = .ok (.aload_n 0, 1) := by decide +kernel
theorem dX12_ask_21 : decode cX12_ask 21 = .ok (.getfield 13, 3) := by decide +kernel
theorem dX12_ask_24 : decode cX12_ask 24 = .ok (.iconst 0, 1) := by decide +kernel
theorem dX12_ask_25 : decode cX12_ask 25 = .ok (.iaload, 1) := by decide +kernel
theorem dX12_ask_26 : decode cX12_ask 26 = .ok (.if_icmp .ge 90, 3) := by decide +kernel
theorem dX12_ask_29 : decode cX12_ask 29 = .ok (.iconst 0, 1) := by decide +kernel
theorem dX12_ask_30 : decode cX12_ask 30 = .ok (.istore 5, 2) := by decide +kernel
theorem dX12_ask_32 : decode cX12_ask 32 = .ok (.iconst 0, 1) := by decide +kernel
theorem dX12_ask_33 : decode cX12_ask 33 = .ok (.istore 6, 2) := by decide +kernel
theorem dX12_ask_35 : decode cX12_ask 35 = .ok (.iload 6, 2) := by decide +kernel
theorem dX12_ask_37 : decode cX12_ask 37 = .ok (.bipush 31, 2) := by decide +kernel
theorem dX12_ask_39 : decode cX12_ask 39 = .ok (.if_icmp .ge 45, 3) := by decide +kernel
theorem dX12_ask_42 : decode cX12_ask 42 = .ok (.iload 5, 2) := by decide +kernel
theorem dX12_ask_44 : decode cX12_ask 44 = .ok (.aload_n 0, 1) := by decide +kernel
theorem dX12_ask_45 : decode cX12_ask 45 = .ok (.iload 6, 2) := by decide +kernel
theorem dX12_ask_47 : decode cX12_ask 47 = .ok (.invokevirtual 441, 3) := by decide +kernel
theorem dX12_ask_50 : decode cX12_ask 50 = .ok (.ifCond .eq 24, 3) := by decide +kernel
theorem dX12_ask_53 : decode cX12_ask 53 = .ok (.aload_n 0, 1) := by decide +kernel
theorem dX12_ask_54 : decode cX12_ask 54 = .ok (.iload 6, 2) := by decide +kernel
theorem dX12_ask_56 : decode cX12_ask 56 = .ok (.iconst 0, 1) := by decide +kernel
theorem dX12_ask_57 : decode cX12_ask 57 = .ok (.aload_n 0, 1) := by decide +kernel
theorem dX12_ask_58 : decode cX12_ask 58 = .ok (.getfield 23, 3) := by decide +kernel
theorem dX12_ask_61 : decode cX12_ask 61 = .ok (.iload 4, 2) := by decide +kernel
theorem dX12_ask_63 : decode cX12_ask 63 = .ok (.iaload, 1) := by decide +kernel
theorem dX12_ask_64 : decode cX12_ask 64 = .ok (.invokevirtual 352, 3) := by decide +kernel
theorem dX12_ask_67 : decode cX12_ask 67 = .ok (.ifCond .eq 7, 3) := by decide +kernel
theorem dX12_ask_70 : decode cX12_ask 70 = .ok (.iconst 1, 1) := by decide +kernel
theorem dX12_ask_71 : decode cX12_ask 71 = .ok (.goto 4, 3) := by decide +kernel
theorem dX12_ask_74 : decode cX12_ask 74 = .ok (.iconst 0, 1) := by decide +kernel
theorem dX12_ask_75 : decode cX12_ask 75 = .ok (.iadd, 1) := by decide +kernel
theorem dX12_ask_76 : decode cX12_ask 76 = .ok (.istore 5, 2) := by decide +kernel
theorem dX12_ask_78 : decode cX12_ask 78 = .ok (.iinc 6 1, 3) := by decide +kernel
theorem dX12_ask_81 : decode cX12_ask 81 = .ok (.goto (-46), 3) := by decide +kernel
theorem dX12_ask_84 : decode cX12_ask 84 = .ok (.iload 5, 2) := by decide +kernel
theorem dX12_ask_86 : decode cX12_ask 86 = .ok (.iload_n 1, 1) := by decide +kernel
theorem dX12_ask_87 : decode cX12_ask 87 = .ok (.iload 5, 2) := by decide +kernel
theorem dX12_ask_89 : decode cX12_ask 89 = .ok (.isub, 1) := by decide +kernel
theorem dX12_ask_90 : decode cX12_ask 90 = .ok (.invokestatic 404, 3) := by decide +kernel
theorem dX12_ask_93 : decode cX12_ask 93 = .ok (.istore 5, 2) := by decide +kernel
theorem dX12_ask_95 : decode cX12_ask 95 = .ok (.iload 5, 2) := by decide +kernel
theorem dX12_ask_97 : decode cX12_ask 97 = .ok (.iload_n 2, 1) := by decide +kernel
theorem dX12_ask_98 : decode cX12_ask 98 = .ok (.if_icmp .lt 6, 3) := by decide +kernel
theorem dX12_ask_101 : decode cX12_ask 101 = .ok (.goto 9, 3) := by decide +kernel
theorem dX12_ask_104 : decode cX12_ask 104 = .ok (.iload 5, 2) := by decide +kernel
theorem dX12_ask_106 : decode cX12_ask 106 = .ok (.istore_n 2, 1) := by decide +kernel
theorem dX12_ask_107 : decode cX12_ask 107 = .ok (.iload 4, 2) := by decide +kernel
theorem dX12_ask_109 : decode cX12_ask 109 = .ok (.istore_n 3, 1) := by decide +kernel
theorem dX12_ask_110 : decode cX12_ask 110 = .ok (.iinc 4 1, 3) := by decide +kernel
theorem dX12_ask_113 : decode cX12_ask 113 = .ok (.goto (-95), 3) := by decide +kernel
theorem dX12_ask_116 : decode cX12_ask 116 = .ok (.iload_n 3, 1) := by decide +kernel
theorem dX12_ask_117 : decode cX12_ask 117 = .ok (.ireturn, 1) := by decide +kernel
theorem dX12_stricter_0 : decode cX12_stricter 0 = .ok (.aload_n 0, 1) := by decide +kernel
theorem dX12_stricter_1 : decode cX12_stricter 1 = .ok (.iconst 0, 1) := by decide +kernel
theorem dX12_stricter_2 : decode cX12_stricter 2 = .ok (.putfield 129, 3) := by decide +kernel
theorem dX12_stricter_5 : decode cX12_stricter 5 = .ok (.aload_n 0, 1) := by decide +kernel
theorem dX12_stricter_6 : decode cX12_stricter 6 = .ok (.iload_n 1, 1) := by decide +kernel
theorem dX12_stricter_7 : decode cX12_stricter 7 = .ok (.invokevirtual 373, 3) := by decide +kernel
theorem dX12_stricter_10 : decode cX12_stricter 10 = .ok (.ifCond .eq 13, 3) := by decide +kernel
theorem dX12_stricter_13 : decode cX12_stricter 13 = .ok (.iload_n 2, 1) := by decide +kernel
theorem dX12_stricter_14 : decode cX12_stricter 14 = .ok (.iconst 0, 1) := by decide +kernel
theorem dX12_stricter_15 : decode cX12_stricter 15 = .ok (.bipush 9, 2) := by decide +kernel
theorem dX12_stricter_17 : decode cX12_stricter 17 = .ok (.invokestatic 252, 3) := by decide +kernel
theorem dX12_stricter_20 : decode cX12_stricter 20 = .ok (.ifCond .ne 5, 3) := by decide +kernel
theorem dX12_stricter_23 : decode cX12_stricter 23 = .ok (.iconst (-1), 1) := by decide +kernel
theorem dX12_stricter_24 : decode cX12_stricter 24 = .ok (.ireturn, 1) := by decide +kernel
theorem dX12_stricter_25 : decode cX12_stricter 25 = .ok (.aload_n 0, 1) := by decide +kernel
theorem dX12_stricter_26 : decode cX12_stricter 26 = .ok (.iload_n 2, 1) := by decide +kernel
theorem dX12_stricter_27 : decode cX12_stricter 27 = .ok (.putfield 349, 3) := by decide +kernel
theorem dX12_stricter_30 : decode cX12_stricter 30 = .ok (.iconst 0, 1) := by decide +kernel
theorem dX12_stricter_31 : decode cX12_stricter 31 = .ok (.istore_n 3, 1) := by decide +kernel
theorem dX12_stricter_32 : decode cX12_stricter 32 = .ok (.iconst 0, 1) := by decide +kernel
theorem dX12_stricter_33 : decode cX12_stricter 33 = .ok (.istore 4, 2) := by decide +kernel
theorem dX12_stricter_35 : decode cX12_stricter 35 = .ok (.iload 4, 2) := by decide +kernel
theorem dX12_stricter_37 : decode cX12_stricter 37 = .ok (.aload_n 0, 1) := by decide +kernel
theorem dX12_stricter_38 : decode cX12_stricter 38 = .ok (.getfield 13, 3) := by decide +kernel
theorem dX12_stricter_41 : decode cX12_stricter 41 = .ok (.iconst 1, 1) := by decide +kernel
theorem dX12_stricter_42 : decode cX12_stricter 42 = .ok (.iaload, 1) := by decide +kernel
theorem dX12_stricter_43 : decode cX12_stricter 43 = .ok (.if_icmp .ge 36, 3) := by decide +kernel
theorem dX12_stricter_46 : decode cX12_stricter 46 = .ok (.iload_n 3, 1) := by decide +kernel
theorem dX12_stricter_47 : decode cX12_stricter 47 = .ok (.aload_n 0, 1) := by decide +kernel
theorem dX12_stricter_48 : decode cX12_stricter 48 = .ok (.iload 4, 2) := by decide +kernel
theorem dX12_stricter_50 : decode cX12_stricter 50 = .ok (.iconst 1, 1) := by decide +kernel
theorem dX12_stricter_51 : decode cX12_stricter 51 = .ok (.aload_n 0, 1) := by decide +kernel
theorem dX12_stricter_52 : decode cX12_stricter 52 = .ok (.getfield 108, 3) := by decide +kernel
theorem dX12_stricter_55 : decode cX12_stricter 55 = .ok (.iconst 1, 1) := by decide +kernel
theorem dX12_stricter_56 : decode cX12_stricter 56 = .ok (.iload 4, 2) := by decide +kernel
theorem dX12_stricter_58 : decode cX12_stricter 58 = .ok (.iadd, 1) := by decide +kernel
theorem dX12_stricter_59 : decode cX12_stricter 59 = .ok (.iaload, 1) := by decide +kernel
theorem dX12_stricter_60 : decode cX12_stricter 60 = .ok (.ishl, 1) := by decide +kernel
theorem dX12_stricter_61 : decode cX12_stricter 61 = .ok (.invokevirtual 419, 3) := by decide +kernel
theorem dX12_stricter_64 : decode cX12_stricter 64 = .ok (.iload_n 1, 1) := by decide +kernel
theorem dX12_stricter_65 : decode cX12_stricter 65 = .ok (.ishr, 1) := by decide +kernel
theorem dX12_stricter_66 : decode cX12_stricter 66 = .ok (.iconst 1, 1) := by decide +kernel
theorem dX12_stricter_67 : decode cX12_stricter 67 = .ok (.iand, 1) := by decide +kernel
theorem dX12_stricter_68 : decode cX12_stricter 68 = .ok (.iload 4, 2) := by decide +kernel
theorem dX12_stricter_70 : decode cX12_stricter 70 = .ok (.ishl, 1) := by decide +kernel
theorem dX12_stricter_71 : decode cX12_stricter 71 = .ok (.ior, 1) := by decide +kernel
theorem dX12_stricter_72 : decode cX12_stricter 72 = .ok (.istore_n 3, 1) := by decide +kernel
theorem dX12_stricter_73 : decode cX12_stricter 73 = .ok (.iinc 4 1, 3) := by decide +kernel
theorem dX12_stricter_76 : decode cX12_stricter 76 = .ok (.goto (-41), 3) := by decide +kernel
theorem dX12_stricter_79 : decode cX12_stricter 79 = .ok (.aload_n 0, 1) := by decide +kernel
theorem dX12_stricter_80 : decode cX12_stricter 80 = .ok (.iconst 0, 1) := by decide +kernel
theorem dX12_stricter_81 : decode cX12_stricter 81 = .ok (.putfield 349, 3) := by decide +kernel
theorem dX12_stricter_84 : decode cX12_stricter 84 = .ok (.iload_n 3, 1) := by decide +kernel
theorem dX12_stricter_85 : decode cX12_stricter 85 = .ok (.ireturn, 1) := by decide +kernel
theorem dX12_guardGets_0 : decode cX12_guardGets 0 = .ok (.iload_n 3, 1) := by decide +kernel
theorem dX12_guardGets_1 : decode cX12_guardGets 1 = .ok (.iconst 1, 1) := by decide +kernel
theorem dX12_guardGets_2 : decode cX12_guardGets 2 = .ok (.if_icmp .ne 17, 3) := by decide +kernel
theorem dX12_guardGets_5 : decode cX12_guardGets 5 = .ok (.iload_n 2, 1) := by decide +kernel
theorem dX12_guardGets_6 : decode cX12_guardGets 6 = .ok (.iconst 1, 1) := by decide +kernel
theorem dX12_guardGets_7 : decode cX12_guardGets 7 = .ok (.if_icmp .ne 7, 3) := by decide +kernel
theorem dX12_guardGets_10 : decode cX12_guardGets 10 = .ok (.iload_n 0, 1) := by decide +kernel
theorem dX12_guardGets_11 : decode cX12_guardGets 11 = .ok (.goto 18, 3) := by decide +kernel
theorem dX12_guardGets_14 : decode cX12_guardGets 14 = .ok (.iload_n 1, 1) := by decide +kernel
theorem dX12_guardGets_15 : decode cX12_guardGets 15 = .ok (.ineg, 1) := by decide +kernel
theorem dX12_guardGets_16 : decode cX12_guardGets 16 = .ok (.goto 13, 3) := by decide +kernel
theorem dX12_guardGets_19 : decode cX12_guardGets 19 = .ok (.iload_n 2, 1) := by decide +kernel
theorem dX12_guardGets_20 : decode cX12_guardGets 20 = .ok (.iconst 1, 1) := by decide +kernel
theorem dX12_guardGets_21 : decode cX12_guardGets 21 = .ok (.if_icmp .ne 7, 3) := by decide +kernel
theorem dX12_guardGets_24 : decode cX12_guardGets 24 = .ok (.iconst (-1), 1) := by decide +kernel
theorem dX12_guardGets_25 : decode cX12_guardGets 25 = .ok (.goto 4, 3) := by decide +kernel
theorem dX12_guardGets_28 : decode cX12_guardGets 28 = .ok (.iconst 0, 1) := by decide +kernel
theorem dX12_guardGets_29 : decode cX12_guardGets 29 = .ok (.ireturn, 1) := by decide +kernel
theorem dX12_travellerGets_0 : decode cX12_travellerGets 0 = .ok (.iload_n 3, 1) := by decide +kernel
theorem dX12_travellerGets_1 : decode cX12_travellerGets 1 = .ok (.ifCond .ne 7, 3) := by decide +kernel
theorem dX12_travellerGets_4 : decode cX12_travellerGets 4 = .ok (.iconst 0, 1) := by decide +kernel
theorem dX12_travellerGets_5 : decode cX12_travellerGets 5 = .ok (.goto 14, 3) := by decide +kernel
theorem dX12_travellerGets_8 : decode cX12_travellerGets 8 = .ok (.iload_n 2, 1) := by decide +kernel
theorem dX12_travellerGets_9 : decode cX12_travellerGets 9 = .ok (.iconst 1, 1) := by decide +kernel
theorem dX12_travellerGets_10 : decode cX12_travellerGets 10 = .ok (.if_icmp .ne 8, 3) := by decide +kernel
theorem dX12_travellerGets_13 : decode cX12_travellerGets 13 = .ok (.iload_n 0, 1) := by decide +kernel
theorem dX12_travellerGets_14 : decode cX12_travellerGets 14 = .ok (.ineg, 1) := by decide +kernel
theorem dX12_travellerGets_15 : decode cX12_travellerGets 15 = .ok (.goto 4, 3) := by decide +kernel
theorem dX12_travellerGets_18 : decode cX12_travellerGets 18 = .ok (.iload_n 1, 1) := by decide +kernel
theorem dX12_travellerGets_19 : decode cX12_travellerGets 19 = .ok (.ireturn, 1) := by decide +kernel
theorem dX12_rests_0 : decode cX12_rests 0 = .ok (.aload_n 0, 1) := by decide +kernel
theorem dX12_rests_1 : decode cX12_rests 1 = .ok (.iload_n 1, 1) := by decide +kernel
theorem dX12_rests_2 : decode cX12_rests 2 = .ok (.iconst 0, 1) := by decide +kernel
theorem dX12_rests_3 : decode cX12_rests 3 = .ok (.bipush 9, 2) := by decide +kernel
theorem dX12_rests_5 : decode cX12_rests 5 = .ok (.invokestatic 252, 3) := by decide +kernel
theorem dX12_rests_8 : decode cX12_rests 8 = .ok (.ifCond .eq 22, 3) := by decide +kernel
theorem dX12_rests_11 : decode cX12_rests 11 = .ok (.iload_n 2, 1) := by decide +kernel
theorem dX12_rests_12 : decode cX12_rests 12 = .ok (.iconst 0, 1) := by decide +kernel
theorem dX12_rests_13 : decode cX12_rests 13 = .ok (.bipush 9, 2) := by decide +kernel
theorem dX12_rests_15 : decode cX12_rests 15 = .ok (.invokestatic 252, 3) := by decide +kernel
theorem dX12_rests_18 : decode cX12_rests 18 = .ok (.ifCond .eq 12, 3) := by decide +kernel
theorem dX12_rests_21 : decode cX12_rests 21 = .ok (.iload_n 3, 1) := by decide +kernel
theorem dX12_rests_22 : decode cX12_rests 22 = .ok (.iconst (-1), 1) := by decide +kernel
theorem dX12_rests_23 : decode cX12_rests 23 = .ok (.if_icmp .lt 7, 3) := by decide +kernel
theorem dX12_rests_26 : decode cX12_rests 26 = .ok (.iconst 0, 1) := by decide +kernel
theorem dX12_rests_27 : decode cX12_rests 27 = .ok (.goto 4, 3) := by decide +kernel
theorem dX12_rests_30 : decode cX12_rests 30 = .ok (.iconst 1, 1) := by decide +kernel
theorem dX12_rests_31 : decode cX12_rests 31 = .ok (.putfield 129, 3) := by decide +kernel
theorem dX12_rests_34 : decode cX12_rests 34 = .ok (.aload_n 0, 1) := by decide +kernel
theorem dX12_rests_35 : decode cX12_rests 35 = .ok (.getfield 129, 3) := by decide +kernel
theorem dX12_rests_38 : decode cX12_rests 38 = .ok (.iconst 1, 1) := by decide +kernel
theorem dX12_rests_39 : decode cX12_rests 39 = .ok (.if_icmp .ne 5, 3) := by decide +kernel
theorem dX12_rests_42 : decode cX12_rests 42 = .ok (.iconst 0, 1) := by decide +kernel
theorem dX12_rests_43 : decode cX12_rests 43 = .ok (.ireturn, 1) := by decide +kernel
theorem dX12_rests_44 : decode cX12_rests 44 = .ok (.iconst 0, 1) := by decide +kernel
theorem dX12_rests_45 : decode cX12_rests 45 = .ok (.istore 4, 2) := by decide +kernel
theorem dX12_rests_47 : decode cX12_rests 47 = .ok (.iconst 0, 1) := by decide +kernel
theorem dX12_rests_48 : decode cX12_rests 48 = .ok (.istore 5, 2) := by decide +kernel
theorem dX12_rests_50 : decode cX12_rests 50 = .ok (.iload 5, 2) := by decide +kernel
theorem dX12_rests_52 : decode cX12_rests 52 = .ok (.iconst 4, 1) := by decide +kernel
theorem dX12_rests_53 : decode cX12_rests 53 = .ok (.if_icmp .ge 82, 3) := by decide +kernel
theorem dX12_rests_56 : decode cX12_rests 56 = .ok (.iload 5, 2) := by decide +kernel
theorem dX12_rests_58 : decode cX12_rests 58 = .ok (.iconst 2, 1) := by decide +kernel
theorem dX12_rests_59 : decode cX12_rests 59 = .ok (.idiv, 1) := by decide +kernel
theorem dX12_rests_60 : decode cX12_rests 60 = .ok (.istore 6, 2) := by decide +kernel
theorem dX12_rests_62 : decode cX12_rests 62 = .ok (.iload 5, 2) := by decide +kernel
theorem dX12_rests_64 : decode cX12_rests 64 = .ok (.iconst 2, 1) := by decide +kernel
theorem dX12_rests_65 : decode cX12_rests 65 = .ok (.irem, 1) := by decide +kernel
theorem dX12_rests_66 : decode cX12_rests 66 = .ok (.istore 7, 2) := by decide +kernel
theorem dX12_rests_68 : decode cX12_rests 68 = .ok (.iload_n 1, 1) := by decide +kernel
theorem dX12_rests_69 : decode cX12_rests 69 = .ok (.iload_n 2, 1) := by decide +kernel
theorem dX12_rests_70 : decode cX12_rests 70 = .ok (.iconst 1, 1) := by decide +kernel
theorem dX12_rests_71 : decode cX12_rests 71 = .ok (.iload 6, 2) := by decide +kernel
theorem dX12_rests_73 : decode cX12_rests 73 = .ok (.isub, 1) := by decide +kernel
theorem dX12_rests_74 : decode cX12_rests 74 = .ok (.iload 7, 2) := by decide +kernel
theorem dX12_rests_76 : decode cX12_rests 76 = .ok (.invokestatic 447, 3) := by decide +kernel
theorem dX12_rests_79 : decode cX12_rests 79 = .ok (.iload_n 1, 1) := by decide +kernel
theorem dX12_rests_80 : decode cX12_rests 80 = .ok (.iload_n 2, 1) := by decide +kernel
theorem dX12_rests_81 : decode cX12_rests 81 = .ok (.iload 6, 2) := by decide +kernel
theorem dX12_rests_83 : decode cX12_rests 83 = .ok (.iload 7, 2) := by decide +kernel
theorem dX12_rests_85 : decode cX12_rests 85 = .ok (.invokestatic 447, 3) := by decide +kernel
theorem dX12_rests_88 : decode cX12_rests 88 = .ok (.if_icmp .gt 41, 3) := by decide +kernel
theorem dX12_rests_91 : decode cX12_rests 91 = .ok (.iload_n 1, 1) := by decide +kernel
theorem dX12_rests_92 : decode cX12_rests 92 = .ok (.iload_n 2, 1) := by decide +kernel
theorem dX12_rests_93 : decode cX12_rests 93 = .ok (.iload 6, 2) := by decide +kernel
theorem dX12_rests_95 : decode cX12_rests 95 = .ok (.iconst 1, 1) := by decide +kernel
theorem dX12_rests_96 : decode cX12_rests 96 = .ok (.iload 7, 2) := by decide +kernel
theorem dX12_rests_98 : decode cX12_rests 98 = .ok (.isub, 1) := by decide +kernel
theorem dX12_rests_99 : decode cX12_rests 99 = .ok (.invokestatic 451, 3) := by decide +kernel
theorem dX12_rests_102 : decode cX12_rests 102 = .ok (.iload_n 1, 1) := by decide +kernel
theorem dX12_rests_103 : decode cX12_rests 103 = .ok (.iload_n 2, 1) := by decide +kernel
theorem dX12_rests_104 : decode cX12_rests 104 = .ok (.iload 6, 2) := by decide +kernel
theorem dX12_rests_106 : decode cX12_rests 106 = .ok (.iload 7, 2) := by decide +kernel
theorem dX12_rests_108 : decode cX12_rests 108 = .ok (.invokestatic 451, 3) := by decide +kernel
theorem dX12_rests_111 : decode cX12_rests 111 = .ok (.if_icmp .le 6, 3) := by decide +kernel
theorem dX12_rests_114 : decode cX12_rests 114 = .ok (.goto 15, 3) := by decide +kernel
theorem dX12_rests_117 : decode cX12_rests 117 = .ok (.iload 4, 2) := by decide +kernel
theorem dX12_rests_119 : decode cX12_rests 119 = .ok (.iload_n 3, 1) := by decide +kernel
theorem dX12_rests_120 : decode cX12_rests 120 = .ok (.if_icmp .ne 6, 3) := by decide +kernel
theorem dX12_rests_123 : decode cX12_rests 123 = .ok (.iload 5, 2) := by decide +kernel
theorem dX12_rests_125 : decode cX12_rests 125 = .ok (.ireturn, 1) := by decide +kernel
theorem dX12_rests_126 : decode cX12_rests 126 = .ok (.iinc 4 1, 3) := by decide +kernel
theorem dX12_rests_129 : decode cX12_rests 129 = .ok (.iinc 5 1, 3) := by decide +kernel
theorem dX12_rests_132 : decode cX12_rests 132 = .ok (.goto (-82), 3) := by decide +kernel
theorem dX12_rests_135 : decode cX12_rests 135 = .ok (.aload_n 0, 1) := by decide +kernel
theorem dX12_rests_136 : decode cX12_rests 136 = .ok (.iload_n 3, 1) := by decide +kernel
theorem dX12_rests_137 : decode cX12_rests 137 = .ok (.iconst (-1), 1) := by decide +kernel
theorem dX12_rests_138 : decode cX12_rests 138 = .ok (.if_icmp .ne 7, 3) := by decide +kernel
theorem dX12_rests_141 : decode cX12_rests 141 = .ok (.iconst 0, 1) := by decide +kernel
theorem dX12_rests_142 : decode cX12_rests 142 = .ok (.goto 4, 3) := by decide +kernel
theorem dX12_rests_145 : decode cX12_rests 145 = .ok (.iconst 1, 1) := by decide +kernel
theorem dX12_rests_146 : decode cX12_rests 146 = .ok (.putfield 129, 3) := by decide +kernel
theorem dX12_rests_149 : decode cX12_rests 149 = .ok (.iload_n 3, 1) := by decide +kernel
theorem dX12_rests_150 : decode cX12_rests 150 = .ok (.iconst (-1), 1) := by decide +kernel
theorem dX12_rests_151 : decode cX12_rests 151 = .ok (.if_icmp .ne 8, 3) := by decide +kernel
theorem dX12_rests_154 : decode cX12_rests 154 = .ok (.iload 4, 2) := by decide +kernel
theorem dX12_rests_156 : decode cX12_rests 156 = .ok (.goto 4, 3) := by decide +kernel
theorem dX12_rests_159 : decode cX12_rests 159 = .ok (.iconst 0, 1) := by decide +kernel
theorem dX12_rests_160 : decode cX12_rests 160 = .ok (.ireturn, 1) := by decide +kernel
theorem dX12_draws_0 : decode cX12_draws 0 = .ok (.aload_n 0, 1) := by decide +kernel
theorem dX12_draws_1 : decode cX12_draws 1 = .ok (.aload_n 0, 1) := by decide +kernel
theorem dX12_draws_2 : decode cX12_draws 2 = .ok (.getfield 454, 3) := by decide +kernel
theorem dX12_draws_5 : decode cX12_draws 5 = .ok (.ldc2_w 457, 3) := by decide +kernel
theorem dX12_draws_8 : decode cX12_draws 8 = .ok (.lmul, 1) := by decide +kernel
theorem dX12_draws_9 : decode cX12_draws 9 = .ok (.ldc2_w 459, 3) := by decide +kernel
theorem dX12_draws_12 : decode cX12_draws 12 = .ok (.ladd, 1) := by decide +kernel
theorem dX12_draws_13 : decode cX12_draws 13 = .ok (.ldc2_w 461, 3) := by decide +kernel
theorem dX12_draws_16 : decode cX12_draws 16 = .ok (.lrem, 1) := by decide +kernel
theorem dX12_draws_17 : decode cX12_draws 17 = .ok (.putfield 454, 3) := by decide +kernel
theorem dX12_draws_20 : decode cX12_draws 20 = .ok (.aload_n 0, 1) := by decide +kernel
theorem dX12_draws_21 : decode cX12_draws 21 = .ok (.getfield 454, 3) := by decide +kernel
theorem dX12_draws_24 : decode cX12_draws 24 = .ok (.ldc2_w 463, 3) := by decide +kernel
theorem dX12_draws_27 : decode cX12_draws 27 = .ok (.ldiv, 1) := by decide +kernel
theorem dX12_draws_28 : decode cX12_draws 28 = .ok (.iload_n 1, 1) := by decide +kernel
theorem dX12_draws_29 : decode cX12_draws 29 = .ok (.i2l, 1) := by decide +kernel
theorem dX12_draws_30 : decode cX12_draws 30 = .ok (.lrem, 1) := by decide +kernel
theorem dX12_draws_31 : decode cX12_draws 31 = .ok (.l2i, 1) := by decide +kernel
theorem dX12_draws_32 : decode cX12_draws 32 = .ok (.ireturn, 1) := by decide +kernel
theorem dX12_livesWeek_0 : decode cX12_livesWeek 0 = .ok (.iconst 0, 1) := by decide +kernel
theorem dX12_livesWeek_1 : decode cX12_livesWeek 1 = .ok (.istore_n 1, 1) := by decide +kernel
theorem dX12_livesWeek_2 : decode cX12_livesWeek 2 = .ok (.iload_n 1, 1) := by decide +kernel
theorem dX12_livesWeek_3 : decode cX12_livesWeek 3 = .ok (.aload_n 0, 1) := by decide +kernel
theorem dX12_livesWeek_4 : decode cX12_livesWeek 4 = .ok (.getfield 13, 3) := by decide +kernel
theorem dX12_livesWeek_7 : decode cX12_livesWeek 7 = .ok (.iconst 1, 1) := by decide +kernel
theorem dX12_livesWeek_8 : decode cX12_livesWeek 8 = .ok (.iaload, 1) := by decide +kernel
theorem dX12_livesWeek_9 : decode cX12_livesWeek 9 = .ok (.if_icmp .ge 93, 3) := by decide +kernel
theorem dX12_livesWeek_12 : decode cX12_livesWeek 12 = .ok (.aload_n 0, 1) := by decide +kernel
theorem dX12_livesWeek_13 : decode cX12_livesWeek 13 = .ok (.aload_n 0, 1) := by decide +kernel
theorem dX12_livesWeek_14 : decode cX12_livesWeek 14 = .ok (.getfield 13, 3) := by decide +kernel
theorem dX12_livesWeek_17 : decode cX12_livesWeek 17 = .ok (.iconst 0, 1) := by decide +kernel
theorem dX12_livesWeek_18 : decode cX12_livesWeek 18 = .ok (.iaload, 1) := by decide +kernel
theorem dX12_livesWeek_19 : decode cX12_livesWeek 19 = .ok (.invokevirtual 465, 3) := by decide +kernel
theorem dX12_livesWeek_22 : decode cX12_livesWeek 22 = .ok (.istore_n 2, 1) := by decide +kernel
theorem dX12_livesWeek_23 : decode cX12_livesWeek 23 = .ok (.aload_n 0, 1) := by decide +kernel
theorem dX12_livesWeek_24 : decode cX12_livesWeek 24 = .ok (.getfield 26, 3) := by decide +kernel
theorem dX12_livesWeek_27 : decode cX12_livesWeek 27 = .ok (.aload_n 0, 1) := by decide +kernel
theorem dX12_livesWeek_28 : decode cX12_livesWeek 28 = .ok (.getfield 108, 3) := by decide +kernel
theorem dX12_livesWeek_31 : decode cX12_livesWeek 31 = .ok (.iconst 1, 1) := by decide +kernel
theorem dX12_livesWeek_32 : decode cX12_livesWeek 32 = .ok (.iload_n 1, 1) := by decide +kernel
theorem dX12_livesWeek_33 : decode cX12_livesWeek 33 = .ok (.iadd, 1) := by decide +kernel
theorem dX12_livesWeek_34 : decode cX12_livesWeek 34 = .ok (.iaload, 1) := by decide +kernel
theorem dX12_livesWeek_35 : decode cX12_livesWeek 35 = .ok (.iaload, 1) := by decide +kernel
theorem dX12_livesWeek_36 : decode cX12_livesWeek 36 = .ok (.iload_n 2, 1) := by decide +kernel
theorem dX12_livesWeek_37 : decode cX12_livesWeek 37 = .ok (.ishr, 1) := by decide +kernel
theorem dX12_livesWeek_38 : decode cX12_livesWeek 38 = .ok (.iconst 1, 1) := by decide +kernel
theorem dX12_livesWeek_39 : decode cX12_livesWeek 39 = .ok (.iand, 1) := by decide +kernel
theorem dX12_livesWeek_40 : decode cX12_livesWeek 40 = .ok (.iconst 1, 1) := by decide +kernel
theorem dX12_livesWeek_41 : decode cX12_livesWeek 41 = .ok (.if_icmp .ne 41, 3) := by decide +kernel
theorem dX12_livesWeek_44 : decode cX12_livesWeek 44 = .ok (.aload_n 0, 1) := by decide +kernel
theorem dX12_livesWeek_45 : decode cX12_livesWeek 45 = .ok (.iload_n 1, 1) := by decide +kernel
theorem dX12_livesWeek_46 : decode cX12_livesWeek 46 = .ok (.iload_n 2, 1) := by decide +kernel
theorem dX12_livesWeek_47 : decode cX12_livesWeek 47 = .ok (.invokevirtual 383, 3) := by decide +kernel
theorem dX12_livesWeek_50 : decode cX12_livesWeek 50 = .ok (.ifCond .eq 22, 3) := by decide +kernel
theorem dX12_livesWeek_53 : decode cX12_livesWeek 53 = .ok (.aload_n 0, 1) := by decide +kernel
theorem dX12_livesWeek_54 : decode cX12_livesWeek 54 = .ok (.iload_n 1, 1) := by decide +kernel
theorem dX12_livesWeek_55 : decode cX12_livesWeek 55 = .ok (.iload_n 2, 1) := by decide +kernel
theorem dX12_livesWeek_56 : decode cX12_livesWeek 56 = .ok (.invokevirtual 389, 3) := by decide +kernel
theorem dX12_livesWeek_59 : decode cX12_livesWeek 59 = .ok (.aload_n 0, 1) := by decide +kernel
theorem dX12_livesWeek_60 : decode cX12_livesWeek 60 = .ok (.dup, 1) := by decide +kernel
theorem dX12_livesWeek_61 : decode cX12_livesWeek 61 = .ok (.getfield 468, 3) := by decide +kernel
theorem dX12_livesWeek_64 : decode cX12_livesWeek 64 = .ok (.iconst 1, 1) := by decide +kernel
theorem dX12_livesWeek_65 : decode cX12_livesWeek 65 = .ok (.iadd, 1) := by decide +kernel
theorem dX12_livesWeek_66 : decode cX12_livesWeek 66 = .ok (.putfield 468, 3) := by decide +kernel
theorem dX12_livesWeek_69 : decode cX12_livesWeek 69 = .ok (.goto 13, 3) := by decide +kernel
theorem dX12_livesWeek_72 : decode cX12_livesWeek 72 = .ok (.aload_n 0, 1) := by decide +kernel
theorem dX12_livesWeek_73 : decode cX12_livesWeek 73 = .ok (.dup, 1) := by decide +kernel
theorem dX12_livesWeek_74 : decode cX12_livesWeek 74 = .ok (.getfield 471, 3) := by decide +kernel
theorem dX12_livesWeek_77 : decode cX12_livesWeek 77 = .ok (.iconst 1, 1) := by decide +kernel
theorem dX12_livesWeek_78 : decode cX12_livesWeek 78 = .ok (.iadd, 1) := by decide +kernel
theorem dX12_livesWeek_79 : decode cX12_livesWeek 79 = .ok (.putfield 471, 3) := by decide +kernel
theorem dX12_livesWeek_82 : decode cX12_livesWeek 82 = .ok (.aload_n 0, 1) := by decide +kernel
theorem dX12_livesWeek_83 : decode cX12_livesWeek 83 = .ok (.bipush 20, 2) := by decide +kernel
theorem dX12_livesWeek_85 : decode cX12_livesWeek 85 = .ok (.invokevirtual 465, 3) := by decide +kernel
theorem dX12_livesWeek_88 : decode cX12_livesWeek 88 = .ok (.ifCond .ne 8, 3) := by decide +kernel
theorem dX12_livesWeek_91 : decode cX12_livesWeek 91 = .ok (.aload_n 0, 1) := by decide +kernel
theorem dX12_livesWeek_92 : decode cX12_livesWeek 92 = .ok (.iload_n 1, 1) := by decide +kernel
theorem dX12_livesWeek_93 : decode cX12_livesWeek 93 = .ok (.invokevirtual 398, 3) := by decide +kernel
theorem dX12_livesWeek_96 : decode cX12_livesWeek 96 = .ok (.iinc 1 1, 3) := by decide +kernel
theorem dX12_livesWeek_99 : decode cX12_livesWeek 99 = .ok (.goto (-97), 3) := by decide +kernel
theorem dX12_livesWeek_102 : decode cX12_livesWeek 102 = .ok (.aload_n 0, 1) := by decide +kernel
theorem dX12_livesWeek_103 : decode cX12_livesWeek 103 = .ok (.invokevirtual 401, 3) := by decide +kernel
theorem dX12_livesWeek_106 : decode cX12_livesWeek 106 = .ok (.return_, 1) := by decide +kernel
theorem dX12_years_0 : decode cX12_years 0 = .ok (.aload_n 0, 1) := by decide +kernel
theorem dX12_years_1 : decode cX12_years 1 = .ok (.iconst 0, 1) := by decide +kernel
theorem dX12_years_2 : decode cX12_years 2 = .ok (.putfield 129, 3) := by decide +kernel
theorem dX12_years_5 : decode cX12_years 5 = .ok (.iload_n 1, 1) := by decide +kernel
theorem dX12_years_6 : decode cX12_years 6 = .ok (.iconst 0, 1) := by decide +kernel
theorem dX12_years_7 : decode cX12_years 7 = .ok (.sipush 9999, 3) := by decide +kernel
theorem dX12_years_10 : decode cX12_years 10 = .ok (.invokestatic 252, 3) := by decide +kernel
theorem dX12_years_13 : decode cX12_years 13 = .ok (.ifCond .eq 22, 3) := by decide +kernel
theorem dX12_years_16 : decode cX12_years 16 = .ok (.iload_n 2, 1) := by decide +kernel
theorem dX12_years_17 : decode cX12_years 17 = .ok (.iconst 1, 1) := by decide +kernel
theorem dX12_years_18 : decode cX12_years 18 = .ok (.bipush 99, 2) := by decide +kernel
theorem dX12_years_20 : decode cX12_years 20 = .ok (.invokestatic 252, 3) := by decide +kernel
theorem dX12_years_23 : decode cX12_years 23 = .ok (.ifCond .eq 12, 3) := by decide +kernel
theorem dX12_years_26 : decode cX12_years 26 = .ok (.iload_n 3, 1) := by decide +kernel
theorem dX12_years_27 : decode cX12_years 27 = .ok (.iconst 0, 1) := by decide +kernel
theorem dX12_years_28 : decode cX12_years 28 = .ok (.iconst 2, 1) := by decide +kernel
theorem dX12_years_29 : decode cX12_years 29 = .ok (.invokestatic 252, 3) := by decide +kernel
theorem dX12_years_32 : decode cX12_years 32 = .ok (.ifCond .ne 5, 3) := by decide +kernel
theorem dX12_years_35 : decode cX12_years 35 = .ok (.iconst (-1), 1) := by decide +kernel
theorem dX12_years_36 : decode cX12_years 36 = .ok (.ireturn, 1) := by decide +kernel
theorem dX12_years_37 : decode cX12_years 37 = .ok (.aload_n 0, 1) := by decide +kernel
theorem dX12_years_38 : decode cX12_years 38 = .ok (.iload_n 1, 1) := by decide +kernel
theorem dX12_years_39 : decode cX12_years 39 = .ok (.i2l, 1) := by decide +kernel
theorem dX12_years_40 : decode cX12_years 40 = .ok (.putfield 454, 3) := by decide +kernel
theorem dX12_years_43 : decode cX12_years 43 = .ok (.aload_n 0, 1) := by decide +kernel
theorem dX12_years_44 : decode cX12_years 44 = .ok (.iconst 0, 1) := by decide +kernel
theorem dX12_years_45 : decode cX12_years 45 = .ok (.putfield 468, 3) := by decide +kernel
theorem dX12_years_48 : decode cX12_years 48 = .ok (.aload_n 0, 1) := by decide +kernel
theorem dX12_years_49 : decode cX12_years 49 = .ok (.iconst 0, 1) := by decide +kernel
theorem dX12_years_50 : decode cX12_years 50 = .ok (.putfield 471, 3) := by decide +kernel
theorem dX12_years_53 : decode cX12_years 53 = .ok (.aload_n 0, 1) := by decide +kernel
theorem dX12_years_54 : decode cX12_years 54 = .ok (.getfield 108, 3) := by decide +kernel
theorem dX12_years_57 : decode cX12_years 57 = .ok (.iconst 0, 1) := by decide +kernel
theorem dX12_years_58 : decode cX12_years 58 = .ok (.aload_n 0, 1) := by decide +kernel
theorem dX12_years_59 : decode cX12_years 59 = .ok (.getfield 111, 3) := by decide +kernel
theorem dX12_years_62 : decode cX12_years 62 = .ok (.iconst 0, 1) := by decide +kernel
theorem dX12_years_63 : decode cX12_years 63 = .ok (.invokestatic 379, 3) := by decide +kernel
theorem dX12_years_66 : decode cX12_years 66 = .ok (.iconst 0, 1) := by decide +kernel
theorem dX12_years_67 : decode cX12_years 67 = .ok (.istore 4, 2) := by decide +kernel
theorem dX12_years_69 : decode cX12_years 69 = .ok (.iload 4, 2) := by decide +kernel
theorem dX12_years_71 : decode cX12_years 71 = .ok (.iload_n 2, 1) := by decide +kernel
theorem dX12_years_72 : decode cX12_years 72 = .ok (.if_icmp .ge 13, 3) := by decide +kernel
theorem dX12_years_75 : decode cX12_years 75 = .ok (.aload_n 0, 1) := by decide +kernel
theorem dX12_years_76 : decode cX12_years 76 = .ok (.invokevirtual 474, 3) := by decide +kernel
theorem dX12_years_79 : decode cX12_years 79 = .ok (.iinc 4 1, 3) := by decide +kernel
theorem dX12_years_82 : decode cX12_years 82 = .ok (.goto (-13), 3) := by decide +kernel
theorem dX12_years_85 : decode cX12_years 85 = .ok (.aload_n 0, 1) := by decide +kernel
theorem dX12_years_86 : decode cX12_years 86 = .ok (.invokevirtual 477, 3) := by decide +kernel
theorem dX12_years_89 : decode cX12_years 89 = .ok (.istore 4, 2) := by decide +kernel
theorem dX12_years_91 : decode cX12_years 91 = .ok (.aload_n 0, 1) := by decide +kernel
theorem dX12_years_92 : decode cX12_years 92 = .ok (.getfield 111, 3) := by decide +kernel
theorem dX12_years_95 : decode cX12_years 95 = .ok (.iconst 0, 1) := by decide +kernel
theorem dX12_years_96 : decode cX12_years 96 = .ok (.aload_n 0, 1) := by decide +kernel
theorem dX12_years_97 : decode cX12_years 97 = .ok (.getfield 108, 3) := by decide +kernel
theorem dX12_years_100 : decode cX12_years 100 = .ok (.iconst 0, 1) := by decide +kernel
theorem dX12_years_101 : decode cX12_years 101 = .ok (.invokestatic 379, 3) := by decide +kernel
theorem dX12_years_104 : decode cX12_years 104 = .ok (.iload_n 3, 1) := by decide +kernel
theorem dX12_years_105 : decode cX12_years 105 = .ok (.ifCond .ne 10, 3) := by decide +kernel
theorem dX12_years_108 : decode cX12_years 108 = .ok (.aload_n 0, 1) := by decide +kernel
theorem dX12_years_109 : decode cX12_years 109 = .ok (.getfield 468, 3) := by decide +kernel
theorem dX12_years_112 : decode cX12_years 112 = .ok (.goto 17, 3) := by decide +kernel
theorem dX12_years_115 : decode cX12_years 115 = .ok (.iload_n 3, 1) := by decide +kernel
theorem dX12_years_116 : decode cX12_years 116 = .ok (.iconst 1, 1) := by decide +kernel
theorem dX12_years_117 : decode cX12_years 117 = .ok (.if_icmp .ne 10, 3) := by decide +kernel
theorem dX12_years_120 : decode cX12_years 120 = .ok (.aload_n 0, 1) := by decide +kernel
theorem dX12_years_121 : decode cX12_years 121 = .ok (.getfield 471, 3) := by decide +kernel
theorem dX12_years_124 : decode cX12_years 124 = .ok (.goto 5, 3) := by decide +kernel
theorem dX12_years_127 : decode cX12_years 127 = .ok (.iload 4, 2) := by decide +kernel
theorem dX12_years_129 : decode cX12_years 129 = .ok (.ireturn, 1) := by decide +kernel
theorem dX12_mark_0 : decode cX12_mark 0 = .ok (.aload_n 0, 1) := by decide +kernel
theorem dX12_mark_1 : decode cX12_mark 1 = .ok (.iconst 0, 1) := by decide +kernel
theorem dX12_mark_2 : decode cX12_mark 2 = .ok (.putfield 129, 3) := by decide +kernel
theorem dX12_mark_5 : decode cX12_mark 5 = .ok (.iload_n 1, 1) := by decide +kernel
theorem dX12_mark_6 : decode cX12_mark 6 = .ok (.iconst 0, 1) := by decide +kernel
theorem dX12_mark_7 : decode cX12_mark 7 = .ok (.iconst 3, 1) := by decide +kernel
theorem dX12_mark_8 : decode cX12_mark 8 = .ok (.invokestatic 252, 3) := by decide +kernel
theorem dX12_mark_11 : decode cX12_mark 11 = .ok (.ifCond .eq 16, 3) := by decide +kernel
theorem dX12_mark_14 : decode cX12_mark 14 = .ok (.iload_n 2, 1) := by decide +kernel
theorem dX12_mark_15 : decode cX12_mark 15 = .ok (.ifCond .eq 14, 3) := by decide +kernel
theorem dX12_mark_18 : decode cX12_mark 18 = .ok (.aload_n 0, 1) := by decide +kernel
theorem dX12_mark_19 : decode cX12_mark 19 = .ok (.getfield 123, 3) := by decide +kernel
theorem dX12_mark_22 : decode cX12_mark 22 = .ok (.iload_n 1, 1) := by decide +kernel
theorem dX12_mark_23 : decode cX12_mark 23 = .ok (.baload, 1) := by decide +kernel
theorem dX12_mark_24 : decode cX12_mark 24 = .ok (.ifCond .ne 5, 3) := by decide +kernel
theorem dX12_mark_27 : decode cX12_mark 27 = .ok (.iconst 0, 1) := by decide +kernel
theorem dX12_mark_28 : decode cX12_mark 28 = .ok (.ireturn, 1) := by decide +kernel
theorem dX12_mark_29 : decode cX12_mark 29 = .ok (.aload_n 0, 1) := by decide +kernel
theorem dX12_mark_30 : decode cX12_mark 30 = .ok (.getfield 123, 3) := by decide +kernel
theorem dX12_mark_33 : decode cX12_mark 33 = .ok (.iload_n 1, 1) := by decide +kernel
theorem dX12_mark_34 : decode cX12_mark 34 = .ok (.iconst 1, 1) := by decide +kernel
theorem dX12_mark_35 : decode cX12_mark 35 = .ok (.bastore, 1) := by decide +kernel
theorem dX12_mark_36 : decode cX12_mark 36 = .ok (.iload_n 2, 1) := by decide +kernel
theorem dX12_mark_37 : decode cX12_mark 37 = .ok (.ifCond .eq 9, 3) := by decide +kernel
theorem dX12_mark_40 : decode cX12_mark 40 = .ok (.iconst 1, 1) := by decide +kernel
theorem dX12_mark_41 : decode cX12_mark 41 = .ok (.iload_n 1, 1) := by decide +kernel
theorem dX12_mark_42 : decode cX12_mark 42 = .ok (.iadd, 1) := by decide +kernel
theorem dX12_mark_43 : decode cX12_mark 43 = .ok (.goto 4, 3) := by decide +kernel
theorem dX12_mark_46 : decode cX12_mark 46 = .ok (.iconst 0, 1) := by decide +kernel
theorem dX12_mark_47 : decode cX12_mark 47 = .ok (.istore_n 3, 1) := by decide +kernel
theorem dX12_mark_48 : decode cX12_mark 48 = .ok (.iload_n 2, 1) := by decide +kernel
theorem dX12_mark_49 : decode cX12_mark 49 = .ok (.ifCond .eq 7, 3) := by decide +kernel
theorem dX12_mark_52 : decode cX12_mark 52 = .ok (.iconst 0, 1) := by decide +kernel
theorem dX12_mark_53 : decode cX12_mark 53 = .ok (.goto 6, 3) := by decide +kernel
theorem dX12_mark_56 : decode cX12_mark 56 = .ok (.iconst 1, 1) := by decide +kernel
theorem dX12_mark_57 : decode cX12_mark 57 = .ok (.iload_n 1, 1) := by decide +kernel
theorem dX12_mark_58 : decode cX12_mark 58 = .ok (.iadd, 1) := by decide +kernel
theorem dX12_mark_59 : decode cX12_mark 59 = .ok (.istore 4, 2) := by decide +kernel
theorem dX12_mark_61 : decode cX12_mark 61 = .ok (.aload_n 0, 1) := by decide +kernel
theorem dX12_mark_62 : decode cX12_mark 62 = .ok (.iload_n 3, 1) := by decide +kernel
theorem dX12_mark_63 : decode cX12_mark 63 = .ok (.iload 4, 2) := by decide +kernel
theorem dX12_mark_65 : decode cX12_mark 65 = .ok (.invokevirtual 342, 3) := by decide +kernel
theorem dX12_mark_68 : decode cX12_mark 68 = .ok (.aload_n 0, 1) := by decide +kernel
theorem dX12_mark_69 : decode cX12_mark 69 = .ok (.iload_n 3, 1) := by decide +kernel
theorem dX12_mark_70 : decode cX12_mark 70 = .ok (.iload 4, 2) := by decide +kernel
theorem dX12_mark_72 : decode cX12_mark 72 = .ok (.invokevirtual 480, 3) := by decide +kernel
theorem dX12_mark_75 : decode cX12_mark 75 = .ok (.iload_n 2, 1) := by decide +kernel
theorem dX12_mark_76 : decode cX12_mark 76 = .ok (.ifCond .eq 27, 3) := by decide +kernel
theorem dX12_mark_79 : decode cX12_mark 79 = .ok (.aload_n 0, 1) := by decide +kernel
theorem dX12_mark_80 : decode cX12_mark 80 = .ok (.getfield 117, 3) := by decide +kernel
theorem dX12_mark_83 : decode cX12_mark 83 = .ok (.bipush 31, 2) := by decide +kernel
theorem dX12_mark_85 : decode cX12_mark 85 = .ok (.iload_n 1, 1) := by decide +kernel
theorem dX12_mark_86 : decode cX12_mark 86 = .ok (.imul, 1) := by decide +kernel
theorem dX12_mark_87 : decode cX12_mark 87 = .ok (.aload_n 0, 1) := by decide +kernel
theorem dX12_mark_88 : decode cX12_mark 88 = .ok (.getfield 108, 3) := by decide +kernel
theorem dX12_mark_91 : decode cX12_mark 91 = .ok (.iconst 0, 1) := by decide +kernel
theorem dX12_mark_92 : decode cX12_mark 92 = .ok (.invokestatic 379, 3) := by decide +kernel
theorem dX12_mark_95 : decode cX12_mark 95 = .ok (.aload_n 0, 1) := by decide +kernel
theorem dX12_mark_96 : decode cX12_mark 96 = .ok (.iconst 0, 1) := by decide +kernel
theorem dX12_mark_97 : decode cX12_mark 97 = .ok (.putfield 336, 3) := by decide +kernel
theorem dX12_mark_100 : decode cX12_mark 100 = .ok (.goto 19, 3) := by decide +kernel
theorem dX12_mark_103 : decode cX12_mark 103 = .ok (.aload_n 0, 1) := by decide +kernel
theorem dX12_mark_104 : decode cX12_mark 104 = .ok (.getfield 108, 3) := by decide +kernel
theorem dX12_mark_107 : decode cX12_mark 107 = .ok (.iconst 0, 1) := by decide +kernel
theorem dX12_mark_108 : decode cX12_mark 108 = .ok (.aload_n 0, 1) := by decide +kernel
theorem dX12_mark_109 : decode cX12_mark 109 = .ok (.getfield 117, 3) := by decide +kernel
theorem dX12_mark_112 : decode cX12_mark 112 = .ok (.bipush 31, 2) := by decide +kernel
theorem dX12_mark_114 : decode cX12_mark 114 = .ok (.iload_n 1, 1) := by decide +kernel
theorem dX12_mark_115 : decode cX12_mark 115 = .ok (.imul, 1) := by decide +kernel
theorem dX12_mark_116 : decode cX12_mark 116 = .ok (.invokestatic 379, 3) := by decide +kernel
theorem dX12_mark_119 : decode cX12_mark 119 = .ok (.iconst 1, 1) := by decide +kernel
theorem dX12_mark_120 : decode cX12_mark 120 = .ok (.ireturn, 1) := by decide +kernel
