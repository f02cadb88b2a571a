theorem dX12_ask_16 : decode cX12_ask 16 = .ok (.istore 4, 2) := by decide +kernel
theorem dX12_ask_18 : decode cX12_ask 18 = .ok (.iload 4, 2) := by decide +kernel
theorem dX12_ask_20 : decode cX12_ask 20 = .ok (.aload_n 0, 1) := by decide +kernel
theorem dX12_ask_21 : decode cX12_ask 21 = .ok (.getfield 13, 3) := by decide +kernel
theorem dX12_ask_24 : decode cX12_ask 24 = .ok (.iconst 0, 1) := by decide +kernel
theorem dX12_ask_25 : decode cX12_ask 25 = .ok (.iaload, 1) := by decide +kernel
theorem dX12_ask_26 : decode cX12_ask 26 = .ok (.if_icmp .ge 90, 3) := by decide +kernel
theorem dX12_ask_29 : decode cX12_ask 29 = .ok (.iconst 0, 1) := by decide +kernel
theorem dX12_ask_30 : decode cX12_ask 30 = .ok (.istore 5, 2) := by decide +kernel
theorem dX12_ask_32 : decode cX12_ask 32 = .ok (.iconst 0, 1) := by decide +kernel
theorem dX12_ask_33 : decode cX12_ask 33 = .ok (.istore 6, 2) := by decide +kernel
theorem dX12_ask_35 : decode cX12_ask 35 = .ok (.iload 6, 2) := by decide +kernel
theorem dX12_ask_37 : decode cX12_ask 37 = .ok (.bipush 31, 2) := by decide +kernel
theorem dX12_ask_39 : decode cX12_ask 39 = .ok (.if_icmp .ge 45, 3) := by decide +kernel
theorem dX12_ask_42 : decode cX12_ask 42 = .ok (.iload 5, 2) := by decide +kernel
theorem dX12_ask_44 : decode cX12_ask 44 = .ok (.aload_n 0, 1) := by decide +kernel
theorem dX12_ask_45 : decode cX12_ask 45 = .ok (.iload 6, 2) := by decide +kernel
theorem dX12_ask_47 : decode cX12_ask 47 = .ok (.invokevirtual 441, 3) := by decide +kernel
theorem dX12_ask_50 : decode cX12_ask 50 = .ok (.ifCond .eq 24, 3) := by decide +kernel
theorem dX12_ask_53 : decode cX12_ask 53 = .ok (.aload_n 0, 1) := by decide +kernel
theorem dX12_ask_54 : decode cX12_ask 54 = .ok (.iload 6, 2) := by decide +kernel
theorem dX12_ask_56 : decode cX12_ask 56 = .ok (.iconst 0, 1) := by decide +kernel
theorem dX12_ask_57 : decode cX12_ask 57 = .ok (.aload_n 0, 1) := by decide +kernel
theorem dX12_ask_58 : decode cX12_ask 58 = .ok (.getfield 23, 3) := by decide +kernel
theorem dX12_ask_61 : decode cX12_ask 61 = .ok (.iload 4, 2) := by decide +kernel
theorem dX12_ask_63 : decode cX12_ask 63 = .ok (.iaload, 1) := by decide +kernel
theorem dX12_ask_64 : decode cX12_ask 64 = .ok (.invokevirtual 352, 3) := by decide +kernel
theorem dX12_ask_67 : decode cX12_ask 67 = .ok (.ifCond .eq 7, 3) := by decide +kernel
theorem dX12_ask_70 : decode cX12_ask 70 = .ok (.iconst 1, 1) := by decide +kernel
theorem dX12_ask_71 : decode cX12_ask 71 = .ok (.goto 4, 3) := by decide +kernel
theorem dX12_ask_74 : decode cX12_ask 74 = .ok (.iconst 0, 1) := by decide +kernel
theorem dX12_ask_75 : decode cX12_ask 75 = .ok (.iadd, 1) := by decide +kernel
theorem dX12_ask_76 : decode cX12_ask 76 = .ok (.istore 5, 2) := by decide +kernel
theorem dX12_ask_78 : decode cX12_ask 78 = .ok (.iinc 6 1, 3) := by decide +kernel
theorem dX12_ask_81 : decode cX12_ask 81 = .ok (.goto (-46), 3) := by decide +kernel
theorem dX12_ask_84 : decode cX12_ask 84 = .ok (.iload 5, 2) := by decide +kernel
theorem dX12_ask_86 : decode cX12_ask 86 = .ok (.iload_n 1, 1) := by decide +kernel
theorem dX12_ask_87 : decode cX12_ask 87 = .ok (.iload 5, 2) := by decide +kernel
theorem dX12_ask_89 : decode cX12_ask 89 = .ok (.isub, 1) := by decide +kernel
theorem dX12_ask_90 : decode cX12_ask 90 = .ok (.invokestatic 404, 3) := by decide +kernel
theorem dX12_ask_93 : decode cX12_ask 93 = .ok (.istore 5, 2) := by decide +kernel
theorem dX12_ask_95 : decode cX12_ask 95 = .ok (.iload 5, 2) := by decide +kernel
theorem dX12_ask_97 : decode cX12_ask 97 = .ok (.iload_n 2, 1) := by decide +kernel
theorem dX12_ask_98 : decode cX12_ask 98 = .ok (.if_icmp .lt 6, 3) := by decide +kernel
theorem dX12_ask_101 : decode cX12_ask 101 = .ok (.goto 9, 3) := by decide +kernel
theorem dX12_ask_104 : decode cX12_ask 104 = .ok (.iload 5, 2) := by decide +kernel
theorem dX12_ask_106 : decode cX12_ask 106 = .ok (.istore_n 2, 1) := by decide +kernel
theorem dX12_ask_107 : decode cX12_ask 107 = .ok (.iload 4, 2) := by decide +kernel
theorem dX12_ask_109 : decode cX12_ask 109 = .ok (.istore_n 3, 1) := by decide +kernel
theorem dX12_ask_110 : decode cX12_ask 110 = .ok (.iinc 4 1, 3) := by decide +kernel
theorem dX12_ask_113 : decode cX12_ask 113 = .ok (.goto (-95), 3) := by decide +kernel
theorem dX12_ask_116 : decode cX12_ask 116 = .ok (.iload_n 3, 1) := by decide +kernel
theorem dX12_ask_117 : decode cX12_ask 117 = .ok (.ireturn, 1) := by decide +kernel
theorem dX12_stricter_0 : decode cX12_stricter 0 = .ok (.aload_n 0, 1) := by decide +kernel
theorem dX12_stricter_1 : decode cX12_stricter 1 = .ok (.iconst 0, 1) := by decide +kernel
theorem dX12_stricter_2 : decode cX12_stricter 2 = .ok (.putfield 129, 3) := by decide +kernel
theorem dX12_stricter_5 : decode cX12_stricter 5 = .ok (.aload_n 0, 1) := by decide +kernel
theorem dX12_stricter_6 : decode cX12_stricter 6 = .ok (.iload_n 1, 1) := by decide +kernel
theorem dX12_stricter_7 : decode cX12_stricter 7 = .ok (.invokevirtual 373, 3) := by decide +kernel
theorem dX12_stricter_10 : decode cX12_stricter 10 = .ok (.ifCond .eq 13, 3) := by decide +kernel
theorem dX12_stricter_13 : decode cX12_stricter 13 = .ok (.iload_n 2, 1) := by decide +kernel
theorem dX12_stricter_14 : decode cX12_stricter 14 = .ok (.iconst 0, 1) := by decide +kernel
theorem dX12_stricter_15 : decode cX12_stricter 15 = .ok (.bipush 9, 2) := by decide +kernel
theorem dX12_stricter_17 : decode cX12_stricter 17 = .ok (.invokestatic 252, 3) := by decide +kernel
theorem dX12_stricter_20 : decode cX12_stricter 20 = .ok (.ifCond .ne 5, 3) := by decide +kernel
theorem dX12_stricter_23 : decode cX12_stricter 23 = .ok (.iconst (-1), 1) := by decide +kernel
theorem dX12_stricter_24 : decode cX12_stricter 24 = .ok (.ireturn, 1) := by decide +kernel
theorem dX12_stricter_25 : decode cX12_stricter 25 = .ok (.aload_n 0, 1) := by decide +kernel
theorem dX12_stricter_26 : decode cX12_stricter 26 = .ok (.iload_n 2, 1) := by decide +kernel
theorem dX12_stricter_27 : decode cX12_stricter 27 = .ok (.putfield 349, 3) := by decide +kernel
theorem dX12_stricter_30 : decode cX12_stricter 30 = .ok (.iconst 0, 1) := by decide +kernel
theorem dX12_stricter_31 : decode cX12_stricter 31 = .ok (.istore_n 3, 1) := by decide +kernel
theorem dX12_stricter_32 : decode cX12_stricter 32 = .ok (.iconst 0, 1) := by decide +kernel
theorem dX12_stricter_33 : decode cX12_stricter 33 = .ok (.istore 4, 2) := by decide +kernel
theorem dX12_stricter_35 : decode cX12_stricter 35 = .ok (.iload 4, 2) := by decide +kernel
theorem dX12_stricter_37 : decode cX12_stricter 37 = .ok (.aload_n 0, 1) := by decide +kernel
theorem dX12_stricter_38 : decode cX12_stricter 38 = .ok (.getfield 13, 3) := by decide +kernel
theorem dX12_stricter_41 : decode cX12_stricter 41 = .ok (.iconst 1, 1) := by decide +kernel
theorem dX12_stricter_42 : decode cX12_stricter 42 = .ok (.iaload, 1) := by decide +kernel
theorem dX12_stricter_43 : decode cX12_stricter 43 = .ok (.if_icmp .ge 36, 3) := by decide +kernel
theorem dX12_stricter_46 : decode cX12_stricter 46 = .ok (.iload_n 3, 1) := by decide +kernel
theorem dX12_stricter_47 : decode cX12_stricter 47 = .ok (.aload_n 0, 1) := by decide +kernel
theorem dX12_stricter_48 : decode cX12_stricter 48 = .ok (.iload 4, 2) := by decide +kernel
theorem dX12_stricter_50 : decode cX12_stricter 50 = .ok (.iconst 1, 1) := by decide +kernel
theorem dX12_stricter_51 : decode cX12_stricter 51 = .ok (.aload_n 0, 1) := by decide +kernel
theorem dX12_stricter_52 : decode cX12_stricter 52 = .ok (.getfield 108, 3) := by decide +kernel
theorem dX12_stricter_55 : decode cX12_stricter 55 = .ok (.iconst 1, 1) := by decide +kernel
theorem dX12_stricter_56 : decode cX12_stricter 56 = .ok (.iload 4, 2) := by decide +kernel
theorem dX12_stricter_58 : decode cX12_stricter 58 = .ok (.iadd, 1) := by decide +kernel
theorem dX12_stricter_59 : decode cX12_stricter 59 = .ok (.iaload, 1) := by decide +kernel
theorem dX12_stricter_60 : decode cX12_stricter 60 = .ok (.ishl, 1) := by decide +kernel
theorem dX12_stricter_61 : decode cX12_stricter 61 = .ok (.invokevirtual 419, 3) := by decide +kernel
theorem dX12_stricter_64 : decode cX12_stricter 64 = .ok (.iload_n 1, 1) := by decide +kernel
theorem dX12_stricter_65 : decode cX12_stricter 65 = .ok (.ishr, 1) := by decide +kernel
theorem dX12_stricter_66 : decode cX12_stricter 66 = .ok (.iconst 1, 1) := by decide +kernel
theorem dX12_stricter_67 : decode cX12_stricter 67 = .ok (.iand, 1) := by decide +kernel
theorem dX12_stricter_68 : decode cX12_stricter 68 = .ok (.iload 4, 2) := by decide +kernel
theorem dX12_stricter_70 : decode cX12_stricter 70 = .ok (.ishl, 1) := by decide +kernel
theorem dX12_stricter_71 : decode cX12_stricter 71 = .ok (.ior, 1) := by decide +kernel
theorem dX12_stricter_72 : decode cX12_stricter 72 = .ok (.istore_n 3, 1) := by decide +kernel
theorem dX12_stricter_73 : decode cX12_stricter 73 = .ok (.iinc 4 1, 3) := by decide +kernel
theorem dX12_stricter_76 : decode cX12_stricter 76 = .ok (.goto (-41), 3) := by decide +kernel
theorem dX12_stricter_79 : decode cX12_stricter 79 = .ok (.aload_n 0, 1) := by decide +kernel
theorem dX12_stricter_80 : decode cX12_stricter 80 = .ok (.iconst 0, 1) := by decide +kernel
theorem dX12_stricter_81 : decode cX12_stricter 81 = .ok (.putfield 349, 3) := by decide +kernel
theorem dX12_stricter_84 : decode cX12_stricter 84 = .ok (.iload_n 3, 1) := by decide +kernel
theorem dX12_stricter_85 : decode cX12_stricter 85 = .ok (.ireturn, 1) := by decide +kernel
theorem dX12_guardGets_0 : decode cX12_guardGets 0 = .ok (.iload_n 3, 1) := by decide +kernel
theorem dX12_guardGets_1 : decode cX12_guardGets 1 = .ok (.iconst 1, 1) := by decide +kernel
theorem dX12_guardGets_2 : decode cX12_guardGets 2 = .ok (.if_icmp .ne 17, 3) := by decide +kernel
theorem dX12_guardGets_5 : decode cX12_guardGets 5 = .ok (.iload_n 2, 1) := by decide +kernel
theorem dX12_guardGets_6 : decode cX12_guardGets 6 = .ok (.iconst 1, 1) := by decide +kernel
theorem dX12_guardGets_7 : decode cX12_guardGets 7 = .ok (.if_icmp .ne 7, 3) := by decide +kernel
theorem dX12_guardGets_10 : decode cX12_guardGets 10 = .ok (.iload_n 0, 1) := by decide +kernel
theorem dX12_guardGets_11 : decode cX12_guardGets 11 = .ok (.goto 18, 3) := by decide +kernel
theorem dX12_guardGets_14 : decode cX12_guardGets 14 = .ok (.iload_n 1, 1) := by decide +kernel
theorem dX12_guardGets_15 : decode cX12_guardGets 15 = .ok (.ineg, 1) := by decide +kernel
theorem dX12_guardGets_16 : decode cX12_guardGets 16 = .ok (.goto 13, 3) := by decide +kernel
theorem dX12_guardGets_19 : decode cX12_guardGets 19 = .ok (.iload_n 2, 1) := by decide +kernel
theorem dX12_guardGets_20 : decode cX12_guardGets 20 = .ok (.iconst 1, 1) := by decide +kernel
theorem dX12_guardGets_21 : decode cX12_guardGets 21 = .ok (.if_icmp .ne 7, 3) := by decide +kernel
theorem dX12_guardGets_24 : decode cX12_guardGets 24 = .ok (.iconst (-1), 1) := by decide +kernel
theorem dX12_guardGets_25 : decode cX12_guardGets 25 = .ok (.goto 4, 3) := by decide +kernel
theorem dX12_guardGets_28 : decode cX12_guardGets 28 = .ok (.iconst 0, 1) := by decide +kernel
theorem dX12_guardGets_29 : decode cX12_guardGets 29 = .ok (.ireturn, 1) := by decide +kernel
theorem dX12_travellerGets_0 : decode cX12_travellerGets 0 = .ok (.iload_n 3, 1) := by decide +kernel
theorem dX12_travellerGets_1 : decode cX12_travellerGets 1 = .ok (.ifCond .ne 7, 3) := by decide +kernel
theorem dX12_travellerGets_4 : decode cX12_travellerGets 4 = .ok (.iconst 0, 1) := by decide +kernel
theorem dX12_travellerGets_5 : decode cX12_travellerGets 5 = .ok (.goto 14, 3) := by decide +kernel
theorem dX12_travellerGets_8 : decode cX12_travellerGets 8 = .ok (.iload_n 2, 1) := by decide +kernel
theorem dX12_travellerGets_9 : decode cX12_travellerGets 9 = .ok (.iconst 1, 1) := by decide +kernel
theorem dX12_travellerGets_10 : decode cX12_travellerGets 10 = .ok (.if_icmp .ne 8, 3) := by decide +kernel
theorem dX12_travellerGets_13 : decode cX12_travellerGets 13 = .ok (.iload_n 0, 1) := by decide +kernel
theorem dX12_travellerGets_14 : decode cX12_travellerGets 14 = .ok (.ineg, 1) := by decide +kernel
theorem dX12_travellerGets_15 : decode cX12_travellerGets 15 = .ok (.goto 4, 3) := by decide +kernel
theorem dX12_travellerGets_18 : decode cX12_travellerGets 18 = .ok (.iload_n 1, 1) := by decide +kernel
theorem dX12_travellerGets_19 : decode cX12_travellerGets 19 = .ok (.ireturn, 1) := by decide +kernel
theorem dX12_rests_0 : decode cX12_rests 0 = .ok (.aload_n 0, 1) := by decide +kernel
theorem dX12_rests_1 : decode cX12_rests 1 = .ok (.iload_n 1, 1) := by decide +kernel
theorem dX12_rests_2 : decode cX12_rests 2 = .ok (.iconst 0, 1) := by decide +kernel
theorem dX12_rests_3 : decode cX12_rests 3 = .ok (.bipush 9, 2) := by decide +kernel
theorem dX12_rests_5 : decode cX12_rests 5 = .ok (.invokestatic 252, 3) := by decide +kernel
theorem dX12_rests_8 : decode cX12_rests 8 = .ok (.ifCond .eq 22, 3) := by decide +kernel
theorem dX12_rests_11 : decode cX12_rests 11 = .ok (.iload_n 2, 1) := by decide +kernel
theorem dX12_rests_12 : decode cX12_rests 12 = .ok (.iconst 0, 1) := by decide +kernel
theorem dX12_rests_13 : decode cX12_rests 13 = .ok (.bipush 9, 2) := by decide +kernel
theorem dX12_rests_15 : decode cX12_rests 15 = .ok (.invokestatic 252, 3) := by decide +kernel
theorem dX12_rests_18 : decode cX12_rests 18 = .ok (.ifCond .eq 12, 3) := by decide +kernel
theorem dX12_rests_21 : decode cX12_rests 21 = .ok (.iload_n 3, 1) := by decide +kernel
theorem dX12_rests_22 : decode cX12_rests 22 = .ok (.iconst (-1), 1) := by decide +kernel
theorem dX12_rests_23 : decode cX12_rests 23 = .ok (.if_icmp .lt 7, 3) := by decide +kernel
theorem dX12_rests_26 : decode cX12_rests 26 = .ok (.iconst 0, 1) := by decide +kernel
theorem dX12_rests_27 : decode cX12_rests 27 = .ok (.goto 4, 3) := by decide +kernel
theorem dX12_rests_30 : decode cX12_rests 30 = .ok (.iconst 1, 1) := by decide +kernel
theorem dX12_rests_31 : decode cX12_rests 31 = .ok (.putfield 129, 3) := by decide +kernel
theorem dX12_rests_34 : decode cX12_rests 34 = .ok (.aload_n 0, 1) := by decide +kernel
theorem dX12_rests_35 : decode cX12_rests 35 = .ok (.getfield 129, 3) := by decide +kernel
theorem dX12_rests_38 : decode cX12_rests 38 = .ok (.iconst 1, 1) := by decide +kernel
theorem dX12_rests_39 : decode cX12_rests 39 = .ok (.if_icmp .ne 5, 3) := by decide +kernel
theorem dX12_rests_42 : decode cX12_rests 42 = .ok (.iconst 0, 1) := by decide +kernel
theorem dX12_rests_43 : decode cX12_rests 43 = .ok (.ireturn, 1) := by decide +kernel
theorem dX12_rests_44 : decode cX12_rests 44 = .ok (.iconst 0, 1) := by decide +kernel
theorem dX12_rests_45 : decode cX12_rests 45 = .ok (.istore 4, 2) := by decide +kernel
theorem dX12_rests_47 : decode cX12_rests 47 = .ok (.iconst 0, 1) := by decide +kernel
theorem dX12_rests_48 : decode cX12_rests 48 = .ok (.istore 5, 2) := by decide +kernel
theorem dX12_rests_50 : decode cX12_rests 50 = .ok (.iload 5, 2) := by decide +kernel
theorem dX12_rests_52 : decode cX12_rests 52 = .ok (.iconst 4, 1) := by decide +kernel
theorem dX12_rests_53 : decode cX12_rests 53 = .ok (.if_icmp .ge 82, 3) := by decide +kernel
theorem dX12_rests_56 : decode cX12_rests 56 = .ok (.iload 5, 2) := by decide +kernel
theorem dX12_rests_58 : decode cX12_rests 58 = .ok (.iconst 2, 1) := by decide +kernel
theorem dX12_rests_59 : decode cX12_rests 59 = .ok (.idiv, 1) := by decide +kernel
theorem dX12_rests_60 : decode cX12_rests 60 = .ok (.istore 6, 2) := by decide +kernel
theorem dX12_rests_62 : decode cX12_rests 62 = .ok (.iload 5, 2) := by decide +kernel
theorem dX12_rests_64 : decode cX12_rests 64 = .ok (.iconst 2, 1) := by decide +kernel
theorem dX12_rests_65 : decode cX12_rests 65 = .ok (.irem, 1) := by decide +kernel
theorem dX12_rests_66 : decode cX12_rests 66 = .ok (.istore 7, 2) := by decide +kernel
theorem dX12_rests_68 : decode cX12_rests 68 = .ok (.iload_n 1, 1) := by decide +kernel
theorem dX12_rests_69 : decode cX12_rests 69 = .ok (.iload_n 2, 1) := by decide +kernel
theorem dX12_rests_70 : decode cX12_rests 70 = .ok (.iconst 1, 1) := by decide +kernel
theorem dX12_rests_71 : decode cX12_rests 71 = .ok (.iload 6, 2) := by decide +kernel
theorem dX12_rests_73 : decode cX12_rests 73 = .ok (.isub, 1) := by decide +kernel
theorem dX12_rests_74 : decode cX12_rests 74 = .ok (.iload 7, 2) := by decide +kernel
theorem dX12_rests_76 : decode cX12_rests 76 = .ok (.invokestatic 447, 3) := by decide +kernel
theorem dX12_rests_79 : decode cX12_rests 79 = .ok (.iload_n 1, 1) := by decide +kernel
theorem dX12_rests_80 : decode cX12_rests 80 = .ok (.iload_n 2, 1) := by decide +kernel
theorem dX12_rests_81 : decode cX12_rests 81 = .ok (.iload 6, 2) := by decide +kernel
theorem dX12_rests_83 : decode cX12_rests 83 = .ok (.iload 7, 2) := by decide +kernel
theorem dX12_rests_85 : decode cX12_rests 85 = .ok (.invokestatic 447, 3) := by decide +kernel
theorem dX12_rests_88 : decode cX12_rests 88 = .ok (.if_icmp .gt 41, 3) := by decide +kernel
theorem dX12_rests_91 : decode cX12_rests 91 = .ok (.iload_n 1, 1) := by decide +kernel
theorem dX12_rests_92 : decode cX12_rests 92 = .ok (.iload_n 2, 1) := by decide +kernel
theorem dX12_rests_93 : decode cX12_rests 93 = .ok (.iload 6, 2) := by decide +kernel
theorem dX12_rests_95 : decode cX12_rests 95 = .ok (.iconst 1, 1) := by decide +kernel
theorem dX12_rests_96 : decode cX12_rests 96 = .ok (.iload 7, 2) := by decide +kernel
theorem dX12_rests_98 : decode cX12_rests 98 = .ok (.isub, 1) := by decide +kernel
theorem dX12_rests_99 : decode cX12_rests 99 = .ok (.invokestatic 451, 3) := by decide +kernel
theorem dX12_rests_102 : decode cX12_rests 102 = .ok (.iload_n 1, 1) := by decide +kernel
theorem dX12_rests_103 : decode cX12_rests 103 = .ok (.iload_n 2, 1) := by decide +kernel
theorem dX12_rests_104 : decode cX12_rests 104 = .ok (.iload 6, 2) := by decide +kernel
theorem dX12_rests_106 : decode cX12_rests 106 = .ok (.iload 7, 2) := by decide +kernel
theorem dX12_rests_108 : decode cX12_rests 108 = .ok (.invokestatic 451, 3) := by decide +kernel
theorem dX12_rests_111 : decode cX12_rests 111 = .ok (.if_icmp .le 6, 3) := by decide +kernel
theorem dX12_rests_114 : decode cX12_rests 114 = .ok (.goto 15, 3) := by decide +kernel
theorem dX12_rests_117 : decode cX12_rests 117 = .ok (.iload 4, 2) := by decide +kernel
theorem dX12_rests_119 : decode cX12_rests 119 = .ok (.iload_n 3, 1) := by decide +kernel
theorem dX12_rests_120 : decode cX12_rests 120 = .ok (.if_icmp .ne 6, 3) := by decide +kernel
theorem dX12_rests_123 : decode cX12_rests 123 = .ok (.iload 5, 2) := by decide +kernel
theorem dX12_rests_125 : decode cX12_rests 125 = .ok (.ireturn, 1) := by decide +kernel
theorem dX12_rests_126 : decode cX12_rests 126 = .ok (.iinc 4 1, 3) := by decide +kernel
theorem dX12_rests_129 : decode cX12_rests 129 = .ok (.iinc 5 1, 3) := by decide +kernel
theorem dX12_rests_132 : decode cX12_rests 132 = .ok (.goto (-82), 3) := by decide +kernel
theorem dX12_rests_135 : decode cX12_rests 135 = .ok (.aload_n 0, 1) := by decide +kernel
theorem dX12_rests_136 : decode cX12_rests 136 = .ok (.iload_n 3, 1) := by decide +kernel
theorem dX12_rests_137 : decode cX12_rests 137 = .ok (.iconst (-1), 1) := by decide +kernel
theorem dX12_rests_138 : decode cX12_rests 138 = .ok (.if_icmp .ne 7, 3) := by decide +kernel
theorem dX12_rests_141 : decode cX12_rests 141 = .ok (.iconst 0, 1) := by decide +kernel
theorem dX12_rests_142 : decode cX12_rests 142 = .ok (.goto 4, 3) := by decide +kernel
theorem dX12_rests_145 : decode cX12_rests 145 = .ok (.iconst 1, 1) := by decide +kernel
theorem dX12_rests_146 : decode cX12_rests 146 = .ok (.putfield 129, 3) := by decide +kernel
theorem dX12_rests_149 : decode cX12_rests 149 = .ok (.iload_n 3, 1) := by decide +kernel
theorem dX12_rests_150 : decode cX12_rests 150 = .ok (.iconst (-1), 1) := by decide +kernel
theorem dX12_rests_151 : decode cX12_rests 151 = .ok (.if_icmp .ne 8, 3) := by decide +kernel
theorem dX12_rests_154 : decode cX12_rests 154 = .ok (.iload 4, 2) := by decide +kernel
theorem dX12_rests_156 : decode cX12_rests 156 = .ok (.goto 4, 3) := by decide +kernel
theorem dX12_rests_159 : decode cX12_rests 159 = .ok (.iconst 0, 1) := by decide +kernel
theorem dX12_rests_160 : decode cX12_rests 160 = .ok (.ireturn, 1) := by decide +kernel
theorem dX12_draws_0 : decode cX12_draws 0 = .ok (.aload_n 0, 1) := by decide +kernel
theorem dX12_draws_1 : decode cX12_draws 1 = .ok (.aload_n 0, 1) := by decide +kernel
theorem dX12_draws_2 : decode cX12_draws 2 = .ok (.getfield 454, 3) := by decide +kernel
theorem dX12_draws_5 : decode cX12_draws 5 = .ok (.ldc2_w 457, 3) := by decide +kernel
theorem dX12_draws_8 : decode cX12_draws 8 = .ok (.lmul, 1) := by decide +kernel
theorem dX12_draws_9 : decode cX12_draws 9 = .ok (.ldc2_w 459, 3) := by decide +kernel
theorem dX12_draws_12 : decode cX12_draws 12 = .ok (.ladd, 1) := by decide +kernel
theorem dX12_draws_13 : decode cX12_draws 13 = .ok (.ldc2_w 461, 3) := by decide +kernel
theorem dX12_draws_16 : decode cX12_draws 16 = .ok (.lrem, 1) := by decide +kernel
theorem dX12_draws_17 : decode cX12_draws 17 = .ok (.putfield 454, 3) := by decide +kernel
theorem dX12_draws_20 : decode cX12_draws 20 = .ok (.aload_n 0, 1) := by decide +kernel
theorem dX12_draws_21 : decode cX12_draws 21 = .ok (.getfield 454, 3) := by decide +kernel
theorem dX12_draws_24 : decode cX12_draws 24 = .ok (.ldc2_w 463, 3) := by decide +kernel
theorem dX12_draws_27 : decode cX12_draws 27 = .ok (.ldiv, 1) := by decide +kernel
theorem dX12_draws_28 : decode cX12_draws 28 = .ok (.iload_n 1, 1) := by decide +kernel
theorem dX12_draws_29 : decode cX12_draws 29 = .ok (.i2l, 1) := by decide +kernel
theorem dX12_draws_30 : decode cX12_draws 30 = .ok (.lrem, 1) := by decide +kernel
theorem dX12_draws_31 : decode cX12_draws 31 = .ok (.l2i, 1) := by decide +kernel
theorem dX12_draws_32 : decode cX12_draws 32 = .ok (.ireturn, 1) := by decide +kernel
theorem dX12_livesWeek_0 : decode cX12_livesWeek 0 = .ok (.iconst 0, 1) := by decide +kernel
theorem dX12_livesWeek_1 : decode cX12_livesWeek 1 = .ok (.istore_n 1, 1) := by decide +kernel
theorem dX12_livesWeek_2 : decode cX12_livesWeek 2 = .ok (.iload_n 1, 1) := by decide +kernel
theorem dX12_livesWeek_3 : decode cX12_livesWeek 3 = .ok (.aload_n 0, 1) := by decide +kernel
theorem dX12_livesWeek_4 : decode cX12_livesWeek 4 = .ok (.getfield 13, 3) := by decide +kernel
theorem dX12_livesWeek_7 : decode cX12_livesWeek 7 = .ok (.iconst 1, 1) := by decide +kernel
theorem dX12_livesWeek_8 : decode cX12_livesWeek 8 = .ok (.iaload, 1) := by decide +kernel
theorem dX12_livesWeek_9 : decode cX12_livesWeek 9 = .ok (.if_icmp .ge 93, 3) := by decide +kernel
theorem dX12_livesWeek_12 : decode cX12_livesWeek 12 = .ok (.aload_n 0, 1) := by decide +kernel
theorem dX12_livesWeek_13 : decode cX12_livesWeek 13 = .ok (.aload_n 0, 1) := by decide +kernel
theorem dX12_livesWeek_14 : decode cX12_livesWeek 14 = .ok (.getfield 13, 3) := by decide +kernel
theorem dX12_livesWeek_17 : decode cX12_livesWeek 17 = .ok (.iconst 0, 1) := by decide +kernel
theorem dX12_livesWeek_18 : decode cX12_livesWeek 18 = .ok (.iaload, 1) := by decide +kernel
theorem dX12_livesWeek_19 : decode cX12_livesWeek 19 = .ok (.invokevirtual 465, 3) := by decide +kernel
theorem dX12_livesWeek_22 : decode cX12_livesWeek 22 = .ok (.istore_n 2, 1) := by decide +kernel
theorem dX12_livesWeek_23 : decode cX12_livesWeek 23 = .ok (.aload_n 0, 1) := by decide +kernel
theorem dX12_livesWeek_24 : decode cX12_livesWeek 24 = .ok (.getfield 26, 3) := by decide +kernel
theorem dX12_livesWeek_27 : decode cX12_livesWeek 27 = .ok (.aload_n 0, 1) := by decide +kernel
theorem dX12_livesWeek_28 : decode cX12_livesWeek 28 = .ok (.getfield 108, 3) := by decide +kernel
theorem dX12_livesWeek_31 : decode cX12_livesWeek 31 = .ok (.iconst 1, 1) := by decide +kernel
theorem dX12_livesWeek_32 : decode cX12_livesWeek 32 = .ok (.iload_n 1, 1) := by decide +kernel
theorem dX12_livesWeek_33 : decode cX12_livesWeek 33 = .ok (.iadd, 1) := by decide +kernel
theorem dX12_livesWeek_34 : decode cX12_livesWeek 34 = .ok (.iaload, 1) := by decide +kernel
theorem dX12_livesWeek_35 : decode cX12_livesWeek 35 = .ok (.iaload, 1) := by decide +kernel
theorem dX12_livesWeek_36 : decode cX12_livesWeek 36 = .ok (.iload_n 2, 1) := by decide +kernel
theorem dX12_livesWeek_37 : decode cX12_livesWeek 37 = .ok (.ishr, 1) := by decide +kernel
theorem dX12_livesWeek_38 : decode cX12_livesWeek 38 = .ok (.iconst 1, 1) := by decide +kernel
theorem dX12_livesWeek_39 : decode cX12_livesWeek 39 = .ok (.iand, 1) := by decide +kernel
theorem dX12_livesWeek_40 : decode cX12_livesWeek 40 = .ok (.iconst 1, 1) := by decide +kernel
theorem dX12_livesWeek_41 : decode cX12_livesWeek 41 = .ok (.if_icmp .ne 41, 3) := by decide +kernel
theorem dX12_livesWeek_44 : decode cX12_livesWeek 44 = .ok (.aload_n 0, 1) := by decide +kernel
theorem dX12_livesWeek_45 : decode cX12_livesWeek 45 = .ok (.iload_n 1, 1) := by decide +kernel
theorem dX12_livesWeek_46 : decode cX12_livesWeek 46 = .ok (.iload_n 2, 1) := by decide +kernel
theorem dX12_livesWeek_47 : decode cX12_livesWeek 47 = .ok (.invokevirtual 383, 3) := by decide +kernel
theorem dX12_livesWeek_50 : decode cX12_livesWeek 50 = .ok (.ifCond .eq 22, 3) := by decide +kernel
theorem dX12_livesWeek_53 : decode cX12_livesWeek 53 = .ok (.aload_n 0, 1) := by decide +kernel
theorem dX12_livesWeek_54 : decode cX12_livesWeek 54 = .ok (.iload_n 1, 1) := by decide +kernel
theorem dX12_livesWeek_55 : decode cX12_livesWeek 55 = .ok (.iload_n 2, 1) := by decide +kernel
theorem dX12_livesWeek_56 : decode cX12_livesWeek 56 = .ok (.invokevirtual 389, 3) := by decide +kernel
theorem dX12_livesWeek_59 : decode cX12_livesWeek 59 = .ok (.aload_n 0, 1) := by decide +kernel
theorem dX12_livesWeek_60 : decode cX12_livesWeek 60 = .ok (.dup, 1) := by decide +kernel
theorem dX12_livesWeek_61 : decode cX12_livesWeek 61 = .ok (.getfield 468, 3) := by decide +kernel
theorem dX12_livesWeek_64 : decode cX12_livesWeek 64 = .ok (.iconst 1, 1) := by decide +kernel
theorem dX12_livesWeek_65 : decode cX12_livesWeek 65 = .ok (.iadd, 1) := by decide +kernel
theorem dX12_livesWeek_66 : decode cX12_livesWeek 66 = .ok (.putfield 468, 3) := by decide +kernel
theorem dX12_livesWeek_69 : decode cX12_livesWeek 69 = .ok (.goto 13, 3) := by decide +kernel
theorem dX12_livesWeek_72 : decode cX12_livesWeek 72 = .ok (.aload_n 0, 1) := by decide +kernel
theorem dX12_livesWeek_73 : decode cX12_livesWeek 73 = .ok (.dup, 1) := by decide +kernel
theorem dX12_livesWeek_74 : decode cX12_livesWeek 74 = .ok (.getfield 471, 3) := by decide +kernel
theorem dX12_livesWeek_77 : decode cX12_livesWeek 77 = .ok (.iconst 1, 1) := by decide +kernel
theorem dX12_livesWeek_78 : decode cX12_livesWeek 78 = .ok (.iadd, 1) := by decide +kernel
theorem dX12_livesWeek_79 : decode cX12_livesWeek 79 = .ok (.putfield 471, 3) := by decide +kernel
theorem dX12_livesWeek_82 : decode cX12_livesWeek 82 = .ok (.aload_n 0, 1) := by decide +kernel
theorem dX12_livesWeek_83 : decode cX12_livesWeek 83 = .ok (.bipush 20, 2) := by decide +kernel
theorem dX12_livesWeek_85 : decode cX12_livesWeek 85 = .ok (.invokevirtual 465, 3) := by decide +kernel
theorem dX12_livesWeek_88 : decode cX12_livesWeek 88 = .ok (.ifCond .ne 8, 3) := by decide +kernel
theorem dX12_livesWeek_91 : decode cX12_livesWeek 91 = .ok (.aload_n 0, 1) := by decide +kernel
theorem dX12_livesWeek_92 : decode cX12_livesWeek 92 = .ok (.iload_n 1, 1) := by decide +kernel
theorem dX12_livesWeek_93 : decode cX12_livesWeek 93 = .ok (.invokevirtual 398, 3) := by decide +kernel
theorem dX12_livesWeek_96 : decode cX12_livesWeek 96 = .ok (.iinc 1 1, 3) := by decide +kernel
theorem dX12_livesWeek_99 : decode cX12_livesWeek 99 = .ok (.goto (-97), 3) := by decide +kernel
theorem dX12_livesWeek_102 : decode cX12_livesWeek 102 = .ok (.aload_n 0, 1) := by decide +kernel
theorem dX12_livesWeek_103 : decode cX12_livesWeek 103 = .ok (.invokevirtual 401, 3) := by decide +kernel
theorem dX12_livesWeek_106 : decode cX12_livesWeek 106 = .ok (.return_, 1) := by decide +kernel
theorem dX12_years_0 : decode cX12_years 0 = .ok (.aload_n 0, 1) := by decide +kernel
theorem dX12_years_1 : decode cX12_years 1 = .ok (.iconst 0, 1) := by decide +kernel
theorem dX12_years_2 : decode cX12_years 2 = .ok (.putfield 129, 3) := by decide +kernel
theorem dX12_years_5 : decode cX12_years 5 = .ok (.iload_n 1, 1) := by decide +kernel
theorem dX12_years_6 : decode cX12_years 6 = .ok (.iconst 0, 1) := by decide +kernel
theorem dX12_years_7 : decode cX12_years 7 = .ok (.sipush 9999, 3) := by decide +kernel
theorem dX12_years_10 : decode cX12_years 10 = .ok (.invokestatic 252, 3) := by decide +kernel
theorem dX12_years_13 : decode cX12_years 13 = .ok (.ifCond .eq 22, 3) := by decide +kernel
theorem dX12_years_16 : decode cX12_years 16 = .ok (.iload_n 2, 1) := by decide +kernel
theorem dX12_years_17 : decode cX12_years 17 = .ok (.iconst 1, 1) := by decide +kernel
theorem dX12_years_18 : decode cX12_years 18 = .ok (.bipush 99, 2) := by decide +kernel
theorem dX12_years_20 : decode cX12_years 20 = .ok (.invokestatic 252, 3) := by decide +kernel
theorem dX12_years_23 : decode cX12_years 23 = .ok (.ifCond .eq 12, 3) := by decide +kernel
theorem dX12_years_26 : decode cX12_years 26 = .ok (.iload_n 3, 1) := by decide +kernel
theorem dX12_years_27 : decode cX12_years 27 = .ok (.iconst 0, 1) := by decide +kernel
theorem dX12_years_28 : decode cX12_years 28 = .ok (.iconst 2, 1) := by decide +kernel
theorem dX12_years_29 : decode cX12_years 29 = .ok (.invokestatic 252, 3) := by decide +kernel
theorem dX12_years_32 : decode cX12_years 32 = .ok (.ifCond .ne 5, 3) := by decide +kernel
theorem dX12_years_35 : decode cX12_years 35 = .ok (.iconst (-1), 1) := by decide +kernel
theorem dX12_years_36 : decode cX12_years 36 = .ok (.ireturn, 1) := by decide +kernel
theorem dX12_years_37 : decode cX12_years 37 = .ok (.aload_n 0, 1) := by decide +kernel
theorem dX12_years_38 : decode cX12_years 38 = .ok (.iload_n 1, 1) := by decide +kernel
theorem dX12_years_39 : decode cX12_years 39 = .ok (.i2l, 1) := by decide +kernel
theorem dX12_years_40 : decode cX12_years 40 = .ok (.putfield 454, 3) := by decide +kernel
theorem dX12_years_43 : decode cX12_years 43 = .ok (.aload_n 0, 1) := by decide +kernel
theorem dX12_years_44 : decode cX12_years 44 = .ok (.iconst 0, 1) := by decide +kernel
theorem dX12_years_45 : decode cX12_years 45 = .ok (.putfield 468, 3) := by decide +kernel
theorem dX12_years_48 : decode cX12_years 48 = .ok (.aload_n 0, 1) := by decide +kernel
theorem dX12_years_49 : decode cX12_years 49 = .ok (.iconst 0, 1) := by decide +kernel
theorem dX12_years_50 : decode cX12_years 50 = .ok (.putfield 471, 3) := by decide +kernel
theorem dX12_years_53 : decode cX12_years 53 = .ok (.aload_n 0, 1) := by decide +kernel
theorem dX12_years_54 : decode cX12_years 54 = .ok (.getfield 108, 3) := by decide +kernel
theorem dX12_years_57 : decode cX12_years 57 = .ok (.iconst 0, 1) := by decide +kernel
theorem dX12_years_58 : decode cX12_years 58 = .ok (.aload_n 0, 1) := by decide +kernel
theorem dX12_years_59 : decode cX12_years 59 = .ok (.getfield 111, 3) := by decide +kernel
theorem dX12_years_62 : decode cX12_years 62 = .ok (.iconst 0, 1) := by decide +kernel
theorem dX12_years_63 : decode cX12_years 63 = .ok (.invokestatic 379, 3) := by decide +kernel
theorem dX12_years_66 : decode cX12_years 66 = .ok (.iconst 0, 1) := by decide +kernel
theorem dX12_years_67 : decode cX12_years 67 = .ok (.istore 4, 2) := by decide +kernel
theorem dX12_years_69 : decode cX12_years 69 = .ok (.iload 4, 2) := by decide +kernel
theorem dX12_years_71 : decode cX12_years 71 = .ok (.iload_n 2, 1) := by decide +kernel
theorem dX12_years_72 : decode cX12_years 72 = .ok (.if_icmp .ge 13, 3) := by decide +kernel
theorem dX12_years_75 : decode cX12_years 75 = .ok (.aload_n 0, 1) := by decide +kernel
theorem dX12_years_76 : decode cX12_years 76 = .ok (.invokevirtual 474, 3) := by decide +kernel
theorem dX12_years_79 : decode cX12_years 79 = .ok (.iinc 4 1, 3) := by decide +kernel
theorem dX12_years_82 : decode cX12_years 82 = .ok (.goto (-13), 3) := by decide +kernel
theorem dX12_years_85 : decode cX12_years 85 = .ok (.aload_n 0, 1) := by decide +kernel
theorem dX12_years_86 : decode cX12_years 86 = .ok (.invokevirtual 477, 3) := by decide +kernel
theorem dX12_years_89 : decode cX12_years 89 = .ok (.istore 4, 2) := by decide +kernel
theorem dX12_years_91 : decode cX12_years 91 = .ok (.aload_n 0, 1) := by decide +kernel
theorem dX12_years_92 : decode cX12_years 92 = .ok (.getfield 111, 3) := by decide +kernel
theorem dX12_years_95 : decode cX12_years 95 = .ok (.iconst 0, 1) := by decide +kernel
theorem dX12_years_96 : decode cX12_years 96 = .ok (.aload_n 0, 1) := by decide +kernel
theorem dX12_years_97 : decode cX12_years 97 = .ok (.getfield 108, 3) := by decide +kernel
theorem dX12_years_100 : decode cX12_years 100 = .ok (.iconst 0, 1) := by decide +kernel
theorem dX12_years_101 : decode cX12_years 101 = .ok (.invokestatic 379, 3) := by decide +kernel
theorem dX12_years_104 : decode cX12_years 104 = .ok (.iload_n 3, 1) := by decide +kernel
theorem dX12_years_105 : decode cX12_years 105 = .ok (.ifCond .ne 10, 3) := by decide +kernel
theorem dX12_years_108 : decode cX12_years 108 = .ok (.aload_n 0, 1) := by decide +kernel
theorem dX12_years_109 : decode cX12_years 109 = .ok (.getfield 468, 3) := by decide +kernel
theorem dX12_years_112 : decode cX12_years 112 = .ok (.goto 17, 3) := by decide +kernel
theorem dX12_years_115 : decode cX12_years 115 = .ok (.iload_n 3, 1) := by decide +kernel
theorem dX12_years_116 : decode cX12_years 116 = .ok (.iconst 1, 1) := by decide +kernel
theorem dX12_years_117 : decode cX12_years 117 = .ok (.if_icmp .ne 10, 3) := by decide +kernel
theorem dX12_years_120 : decode cX12_years 120 = .ok (.aload_n 0, 1) := by decide +kernel
theorem dX12_years_121 : decode cX12_years 121 = .ok (.getfield 471, 3) := by decide +kernel
theorem dX12_years_124 : decode cX12_years 124 = .ok (.goto 5, 3) := by decide +kernel
theorem dX12_years_127 : decode cX12_years 127 = .ok (.iload 4, 2) := by decide +kernel
theorem dX12_years_129 : decode cX12_years 129 = .ok (.ireturn, 1) := by decide +kernel
theorem dX12_mark_0 : decode cX12_mark 0 = .ok (.aload_n 0, 1) := by decide +kernel
theorem dX12_mark_1 : decode cX12_mark 1 = .ok (.iconst 0, 1) := by decide +kernel
theorem dX12_mark_2 : decode cX12_mark 2 = .ok (.putfield 129, 3) := by decide +kernel
theorem dX12_mark_5 : decode cX12_mark 5 = .ok (.iload_n 1, 1) := by decide +kernel
theorem dX12_mark_6 : decode cX12_mark 6 = .ok (.iconst 0, 1) := by decide +kernel
theorem dX12_mark_7 : decode cX12_mark 7 = .ok (.iconst 3, 1) := by decide +kernel
theorem dX12_mark_8 : decode cX12_mark 8 = .ok (.invokestatic 252, 3) := by decide +kernel
theorem dX12_mark_11 : decode cX12_mark 11 = .ok (.ifCond .eq 16, 3) := by decide +kernel
theorem dX12_mark_14 : decode cX12_mark 14 = .ok (.iload_n 2, 1) := by decide +kernel
theorem dX12_mark_15 : decode cX12_mark 15 = .ok (.ifCond .eq 14, 3) := by decide +kernel
theorem dX12_mark_18 : decode cX12_mark 18 = .ok (.aload_n 0, 1) := by decide +kernel
theorem dX12_mark_19 : decode cX12_mark 19 = .ok (.getfield 123, 3) := by decide +kernel
theorem dX12_mark_22 : decode cX12_mark 22 = .ok (.iload_n 1, 1) := by decide +kernel
theorem dX12_mark_23 : decode cX12_mark 23 = .ok (.baload, 1) := by decide +kernel
theorem dX12_mark_24 : decode cX12_mark 24 = .ok (.ifCond .ne 5, 3) := by decide +kernel
theorem dX12_mark_27 : decode cX12_mark 27 = .ok (.iconst 0, 1) := by decide +kernel
theorem dX12_mark_28 : decode cX12_mark 28 = .ok (.ireturn, 1) := by decide +kernel
theorem dX12_mark_29 : decode cX12_mark 29 = .ok (.aload_n 0, 1) := by decide +kernel
theorem dX12_mark_30 : decode cX12_mark 30 = .ok (.getfield 123, 3) := by decide +kernel
theorem dX12_mark_33 : decode cX12_mark 33 = .ok (.iload_n 1, 1) := by decide +kernel
theorem dX12_mark_34 : decode cX12_mark 34 = .ok (.iconst 1, 1) := by decide +kernel
theorem dX12_mark_35 : decode cX12_mark 35 = .ok (.bastore, 1) := by decide +kernel
theorem dX12_mark_36 : decode cX12_mark 36 = .ok (.iload_n 2, 1) := by decide +kernel
theorem dX12_mark_37 : decode cX12_mark 37 = .ok (.ifCond .eq 9, 3) := by decide +kernel
theorem dX12_mark_40 : decode cX12_mark 40 = .ok (.iconst 1, 1) := by decide +kernel
theorem dX12_mark_41 : decode cX12_mark 41 = .ok (.iload_n 1, 1) := by decide +kernel
theorem dX12_mark_42 : decode cX12_mark 42 = .ok (.iadd, 1) := by decide +kernel
theorem dX12_mark_43 : decode cX12_mark 43 = .ok (.goto 4, 3) := by decide +kernel
theorem dX12_mark_46 : decode cX12_mark 46 = .ok (.iconst 0, 1) := by decide +kernel
theorem dX12_mark_47 : decode cX12_mark 47 = .ok (.istore_n 3, 1) := by decide +kernel
theorem dX12_mark_48 : decode cX12_mark 48 = .ok (.iload_n 2, 1) := by decide +kernel
theorem dX12_mark_49 : decode cX12_mark 49 = .ok (.ifCond .eq 7, 3) := by decide +kernel
theorem dX12_mark_52 : decode cX12_mark 52 = .ok (.iconst 0, 1) := by decide +kernel
theorem dX12_mark_53 : decode cX12_mark 53 = .ok (.goto 6, 3) := by decide +kernel
theorem dX12_mark_56 : decode cX12_mark 56 = .ok (.iconst 1, 1) := by decide +kernel
theorem dX12_mark_57 : decode cX12_mark 57 = .ok (.iload_n 1, 1) := by decide +kernel
theorem dX12_mark_58 : decode cX12_mark 58 = .ok (.iadd, 1) := by decide +kernel
theorem dX12_mark_59 : decode cX12_mark 59 = .ok (.istore 4, 2) := by decide +kernel
theorem dX12_mark_61 : decode cX12_mark 61 = .ok (.aload_n 0, 1) := by decide +kernel
theorem dX12_mark_62 : decode cX12_mark 62 = .ok (.iload_n 3, 1) := by decide +kernel
theorem dX12_mark_63 : decode cX12_mark 63 = .ok (.iload 4, 2) := by decide +kernel
theorem dX12_mark_65 : decode cX12_mark 65 = .ok (.invokevirtual 342, 3) := by decide +kernel
theorem dX12_mark_68 : decode cX12_mark 68 = .ok (.aload_n 0, 1) := by decide +kernel
theorem dX12_mark_69 : decode cX12_mark 69 = .ok (.iload_n 3, 1) := by decide +kernel
theorem dX12_mark_70 : decode cX12_mark 70 = .ok (.iload 4, 2) := by decide +kernel
theorem dX12_mark_72 : decode cX12_mark 72 = .ok (.invokevirtual 480, 3) := by decide +kernel
theorem dX12_mark_75 : decode cX12_mark 75 = .ok (.iload_n 2, 1) := by decide +kernel
theorem dX12_mark_76 : decode cX12_mark 76 = .ok (.ifCond .eq 27, 3) := by decide +kernel
theorem dX12_mark_79 : decode cX12_mark 79 = .ok (.aload_n 0, 1) := by decide +kernel
theorem dX12_mark_80 : decode cX12_mark 80 = .ok (.getfield 117, 3) := by decide +kernel
theorem dX12_mark_83 : decode cX12_mark 83 = .ok (.bipush 31, 2) := by decide +kernel
theorem dX12_mark_85 : decode cX12_mark 85 = .ok (.iload_n 1, 1) := by decide +kernel
theorem dX12_mark_86 : decode cX12_mark 86 = .ok (.imul, 1) := by decide +kernel
theorem dX12_mark_87 : decode cX12_mark 87 = .ok (.aload_n 0, 1) := by decide +kernel
theorem dX12_mark_88 : decode cX12_mark 88 = .ok (.getfield 108, 3) := by decide +kernel
theorem dX12_mark_91 : decode cX12_mark 91 = .ok (.iconst 0, 1) := by decide +kernel
theorem dX12_mark_92 : decode cX12_mark 92 = .ok (.invokestatic 379, 3) := by decide +kernel
theorem dX12_mark_95 : decode cX12_mark 95 = .ok (.aload_n 0, 1) := by decide +kernel
theorem dX12_mark_96 : decode cX12_mark 96 = .ok (.iconst 0, 1) := by decide +kernel
theorem dX12_mark_97 : decode cX12_mark 97 = .ok (.putfield 336, 3) := by decide +kernel
theorem dX12_mark_100 : decode cX12_mark 100 = .ok (.goto 19, 3) := by decide +kernel
theorem dX12_mark_103 : decode cX12_mark 103 = .ok (.aload_n 0, 1) := by decide +kernel
theorem dX12_mark_104 : decode cX12_mark 104 = .ok (.getfield 108, 3) := by decide +kernel
theorem dX12_mark_107 : decode cX12_mark 107 = .ok (.iconst 0, 1) := by decide +kernel
theorem dX12_mark_108 : decode cX12_mark 108 = .ok (.aload_n 0, 1) := by decide +kernel
theorem dX12_mark_109 : decode cX12_mark 109 = .ok (.getfield 117, 3) := by decide +kernel
theorem dX12_mark_112 : decode cX12_mark 112 = .ok (.bipush 31, 2) := by decide +kernel
theorem dX12_mark_114 : decode cX12_mark 114 = .ok (.iload_n 1, 1) := by decide +kernel
theorem dX12_mark_115 : decode cX12_mark 115 = .ok (.imul, 1) := by decide +kernel
theorem dX12_mark_116 : decode cX12_mark 116 = .ok (.invokestatic 379, 3) := by decide +kernel
theorem dX12_mark_119 : decode cX12_mark 119 = .ok (.iconst 1, 1) := by decide +kernel
theorem dX12_mark_120 : decode cX12_mark 120 = .ok (.ireturn, 1) := by decide +kernel
theorem dX12_count_0 : decode cX12_count 0 = .ok (.aload_n 0, 1) := by decide +kernel
theorem dX12_count_1 : decode cX12_count 1 = .ok (.iconst 0, 1) := by decide +kernel
theorem dX12_count_2 : decode cX12_count 2 = .ok (.putfield 129, 3) := by decide +kernel
theorem dX12_count_5 : decode cX12_count 5 = .ok (.iload_n 1, 1) := by decide +kernel
theorem dX12_count_6 : decode cX12_count 6 = .ok (.iconst 0, 1) := by decide +kernel
theorem dX12_count_7 : decode cX12_count 7 = .ok (.bipush 11, 2) := by decide +kernel
theorem dX12_count_9 : decode cX12_count 9 = .ok (.invokestatic 252, 3) := by decide +kernel
theorem dX12_count_12 : decode cX12_count 12 = .ok (.ifCond .ne 5, 3) := by decide +kernel
theorem dX12_count_15 : decode cX12_count 15 = .ok (.iconst (-1), 1) := by decide +kernel
theorem dX12_count_16 : decode cX12_count 16 = .ok (.ireturn, 1) := by decide +kernel
theorem dX12_count_17 : decode cX12_count 17 = .ok (.iload_n 1, 1) := by decide +kernel
theorem dX12_count_18 : decode cX12_count 18 = .ok (.iconst 4, 1) := by decide +kernel
theorem dX12_count_19 : decode cX12_count 19 = .ok (.if_icmp .ge 10, 3) := by decide +kernel
theorem dX12_count_22 : decode cX12_count 22 = .ok (.aload_n 0, 1) := by decide +kernel
theorem dX12_count_23 : decode cX12_count 23 = .ok (.getfield 13, 3) := by decide +kernel
theorem dX12_count_26 : decode cX12_count 26 = .ok (.iload_n 1, 1) := by decide +kernel
theorem dX12_count_27 : decode cX12_count 27 = .ok (.iaload, 1) := by decide +kernel
theorem dX12_count_28 : decode cX12_count 28 = .ok (.ireturn, 1) := by decide +kernel
theorem dX12_count_29 : decode cX12_count 29 = .ok (.iload_n 1, 1) := by decide +kernel
theorem dX12_count_30 : decode cX12_count 30 = .ok (.bipush 6, 2) := by decide +kernel
theorem dX12_count_32 : decode cX12_count 32 = .ok (.if_icmp .ge 22, 3) := by decide +kernel
theorem dX12_count_35 : decode cX12_count 35 = .ok (.iload_n 1, 1) := by decide +kernel
theorem dX12_count_36 : decode cX12_count 36 = .ok (.iconst 4, 1) := by decide +kernel
theorem dX12_count_37 : decode cX12_count 37 = .ok (.if_icmp .ne 12, 3) := by decide +kernel
theorem dX12_count_40 : decode cX12_count 40 = .ok (.aload_n 0, 1) := by decide +kernel
theorem dX12_count_41 : decode cX12_count 41 = .ok (.getfield 108, 3) := by decide +kernel
theorem dX12_count_44 : decode cX12_count 44 = .ok (.iconst 0, 1) := by decide +kernel
theorem dX12_count_45 : decode cX12_count 45 = .ok (.iaload, 1) := by decide +kernel
theorem dX12_count_46 : decode cX12_count 46 = .ok (.goto 7, 3) := by decide +kernel
theorem dX12_count_49 : decode cX12_count 49 = .ok (.aload_n 0, 1) := by decide +kernel
theorem dX12_count_50 : decode cX12_count 50 = .ok (.invokevirtual 477, 3) := by decide +kernel
theorem dX12_count_53 : decode cX12_count 53 = .ok (.ireturn, 1) := by decide +kernel
theorem dX12_count_54 : decode cX12_count 54 = .ok (.iload_n 1, 1) := by decide +kernel
theorem dX12_count_55 : decode cX12_count 55 = .ok (.bipush 8, 2) := by decide +kernel
theorem dX12_count_57 : decode cX12_count 57 = .ok (.if_icmp .ge 25, 3) := by decide +kernel
theorem dX12_count_60 : decode cX12_count 60 = .ok (.iload_n 1, 1) := by decide +kernel
theorem dX12_count_61 : decode cX12_count 61 = .ok (.bipush 6, 2) := by decide +kernel
theorem dX12_count_63 : decode cX12_count 63 = .ok (.if_icmp .ne 12, 3) := by decide +kernel
theorem dX12_count_66 : decode cX12_count 66 = .ok (.aload_n 0, 1) := by decide +kernel
theorem dX12_count_67 : decode cX12_count 67 = .ok (.bipush 13, 2) := by decide +kernel
theorem dX12_count_69 : decode cX12_count 69 = .ok (.invokevirtual 407, 3) := by decide +kernel
theorem dX12_count_72 : decode cX12_count 72 = .ok (.goto 9, 3) := by decide +kernel
theorem dX12_count_75 : decode cX12_count 75 = .ok (.aload_n 0, 1) := by decide +kernel
theorem dX12_count_76 : decode cX12_count 76 = .ok (.bipush 19, 2) := by decide +kernel
theorem dX12_count_78 : decode cX12_count 78 = .ok (.invokevirtual 407, 3) := by decide +kernel
theorem dX12_count_81 : decode cX12_count 81 = .ok (.ireturn, 1) := by decide +kernel
theorem dX12_count_82 : decode cX12_count 82 = .ok (.iload_n 1, 1) := by decide +kernel
theorem dX12_count_83 : decode cX12_count 83 = .ok (.bipush 10, 2) := by decide +kernel
theorem dX12_count_85 : decode cX12_count 85 = .ok (.if_icmp .ge 25, 3) := by decide +kernel
theorem dX12_count_88 : decode cX12_count 88 = .ok (.iload_n 1, 1) := by decide +kernel
theorem dX12_count_89 : decode cX12_count 89 = .ok (.bipush 8, 2) := by decide +kernel
theorem dX12_count_91 : decode cX12_count 91 = .ok (.if_icmp .ne 12, 3) := by decide +kernel
theorem dX12_count_94 : decode cX12_count 94 = .ok (.aload_n 0, 1) := by decide +kernel
theorem dX12_count_95 : decode cX12_count 95 = .ok (.getfield 87, 3) := by decide +kernel
theorem dX12_count_98 : decode cX12_count 98 = .ok (.iconst 0, 1) := by decide +kernel
theorem dX12_count_99 : decode cX12_count 99 = .ok (.iaload, 1) := by decide +kernel
theorem dX12_count_100 : decode cX12_count 100 = .ok (.goto 9, 3) := by decide +kernel
theorem dX12_count_103 : decode cX12_count 103 = .ok (.aload_n 0, 1) := by decide +kernel
theorem dX12_count_104 : decode cX12_count 104 = .ok (.getfield 99, 3) := by decide +kernel
theorem dX12_count_107 : decode cX12_count 107 = .ok (.iconst 0, 1) := by decide +kernel
theorem dX12_count_108 : decode cX12_count 108 = .ok (.iaload, 1) := by decide +kernel
theorem dX12_count_109 : decode cX12_count 109 = .ok (.ireturn, 1) := by decide +kernel
theorem dX12_count_110 : decode cX12_count 110 = .ok (.iload_n 1, 1) := by decide +kernel
theorem dX12_count_111 : decode cX12_count 111 = .ok (.bipush 10, 2) := by decide +kernel
theorem dX12_count_113 : decode cX12_count 113 = .ok (.if_icmp .ne 10, 3) := by decide +kernel
theorem dX12_count_116 : decode cX12_count 116 = .ok (.aload_n 0, 1) := by decide +kernel
theorem dX12_count_117 : decode cX12_count 117 = .ok (.getfield 336, 3) := by decide +kernel
theorem dX12_count_120 : decode cX12_count 120 = .ok (.goto 7, 3) := by decide +kernel
theorem dX12_count_123 : decode cX12_count 123 = .ok (.aload_n 0, 1) := by decide +kernel
theorem dX12_count_124 : decode cX12_count 124 = .ok (.getfield 135, 3) := by decide +kernel
theorem dX12_count_127 : decode cX12_count 127 = .ok (.ireturn, 1) := by decide +kernel
set_option maxRecDepth 20000 in
theorem ggX12_rests_X12_within : GoodIn wsX12_rests wsX12_within := goodIn_r _ [5] (by decide +kernel) (by decide +kernel)
set_option maxRecDepth 20000 in
theorem gX12_rests_X12_within : GoodIn wsX12_rests (va_wsS RX12 252 yX12_within wsX12_within) := goodIn_app (goodIn_of _ (by decide +kernel)) ggX12_rests_X12_within

set_option maxRecDepth 20000 in
theorem ggX12_rests_X12_guardGets : GoodIn wsX12_rests wsX12_guardGets := goodIn_r _ [8] (by decide +kernel) (by decide +kernel)
set_option maxRecDepth 20000 in
theorem gX12_rests_X12_guardGets : GoodIn wsX12_rests (va_wsS RX12 447 yX12_guardGets wsX12_guardGets) := goodIn_app (goodIn_of _ (by decide +kernel)) ggX12_rests_X12_guardGets
set_option maxRecDepth 20000 in
theorem ggX12_rests_X12_travellerGets : GoodIn wsX12_rests wsX12_travellerGets := goodIn_r _ [11] (by decide +kernel) (by decide +kernel)
set_option maxRecDepth 20000 in
theorem gX12_rests_X12_travellerGets : GoodIn wsX12_rests (va_wsS RX12 451 yX12_travellerGets wsX12_travellerGets) := goodIn_app (goodIn_of _ (by decide +kernel)) ggX12_rests_X12_travellerGets
theorem dX0_passesAlone_0 : decode cX0_passesAlone 0 = .ok (.aload_n 0, 1) := by decide +kernel
theorem dX0_passesAlone_1 : decode cX0_passesAlone 1 = .ok (.getfield 9, 3) := by decide +kernel
theorem dX0_passesAlone_4 : decode cX0_passesAlone 4 = .ok (.getfield 15, 3) := by decide +kernel
theorem dX0_passesAlone_7 : decode cX0_passesAlone 7 = .ok (.iload_n 2, 1) := by decide +kernel
theorem dX0_passesAlone_8 : decode cX0_passesAlone 8 = .ok (.iaload, 1) := by decide +kernel
theorem dX0_passesAlone_9 : decode cX0_passesAlone 9 = .ok (.istore 5, 2) := by decide +kernel
theorem dX0_passesAlone_11 : decode cX0_passesAlone 11 = .ok (.iload 5, 2) := by decide +kernel
theorem dX0_passesAlone_13 : decode cX0_passesAlone 13 = .ok (.iconst 2, 1) := by decide +kernel
theorem dX0_passesAlone_14 : decode cX0_passesAlone 14 = .ok (.if_icmp .ne 5, 3) := by decide +kernel
theorem dX0_passesAlone_17 : decode cX0_passesAlone 17 = .ok (.iconst 1, 1) := by decide +kernel
theorem dX0_passesAlone_18 : decode cX0_passesAlone 18 = .ok (.ireturn, 1) := by decide +kernel
theorem dX0_passesAlone_19 : decode cX0_passesAlone 19 = .ok (.aload_n 0, 1) := by decide +kernel
theorem dX0_passesAlone_20 : decode cX0_passesAlone 20 = .ok (.getfield 9, 3) := by decide +kernel
theorem dX0_passesAlone_23 : decode cX0_passesAlone 23 = .ok (.getfield 21, 3) := by decide +kernel
theorem dX0_passesAlone_26 : decode cX0_passesAlone 26 = .ok (.iload_n 3, 1) := by decide +kernel
theorem dX0_passesAlone_27 : decode cX0_passesAlone 27 = .ok (.iaload, 1) := by decide +kernel
theorem dX0_passesAlone_28 : decode cX0_passesAlone 28 = .ok (.iload 4, 2) := by decide +kernel
theorem dX0_passesAlone_30 : decode cX0_passesAlone 30 = .ok (.iadd, 1) := by decide +kernel
theorem dX0_passesAlone_31 : decode cX0_passesAlone 31 = .ok (.istore 6, 2) := by decide +kernel
theorem dX0_passesAlone_33 : decode cX0_passesAlone 33 = .ok (.aload_n 1, 1) := by decide +kernel
theorem dX0_passesAlone_34 : decode cX0_passesAlone 34 = .ok (.getfield 24, 3) := by decide +kernel
theorem dX0_passesAlone_37 : decode cX0_passesAlone 37 = .ok (.iload_n 2, 1) := by decide +kernel
theorem dX0_passesAlone_38 : decode cX0_passesAlone 38 = .ok (.iaload, 1) := by decide +kernel
theorem dX0_passesAlone_39 : decode cX0_passesAlone 39 = .ok (.istore 7, 2) := by decide +kernel
theorem dX0_passesAlone_41 : decode cX0_passesAlone 41 = .ok (.aload_n 0, 1) := by decide +kernel
theorem dX0_passesAlone_42 : decode cX0_passesAlone 42 = .ok (.getfield 9, 3) := by decide +kernel
theorem dX0_passesAlone_45 : decode cX0_passesAlone 45 = .ok (.getfield 29, 3) := by decide +kernel
theorem dX0_passesAlone_48 : decode cX0_passesAlone 48 = .ok (.aload_n 1, 1) := by decide +kernel
theorem dX0_passesAlone_49 : decode cX0_passesAlone 49 = .ok (.getfield 33, 3) := by decide +kernel
theorem dX0_passesAlone_52 : decode cX0_passesAlone 52 = .ok (.iload_n 2, 1) := by decide +kernel
theorem dX0_passesAlone_53 : decode cX0_passesAlone 53 = .ok (.iaload, 1) := by decide +kernel
theorem dX0_passesAlone_54 : decode cX0_passesAlone 54 = .ok (.iload 7, 2) := by decide +kernel
theorem dX0_passesAlone_56 : decode cX0_passesAlone 56 = .ok (.iadd, 1) := by decide +kernel
theorem dX0_passesAlone_57 : decode cX0_passesAlone 57 = .ok (.iload 7, 2) := by decide +kernel
theorem dX0_passesAlone_59 : decode cX0_passesAlone 59 = .ok (.iload 5, 2) := by decide +kernel
theorem dX0_passesAlone_61 : decode cX0_passesAlone 61 = .ok (.iconst 3, 1) := by decide +kernel
theorem dX0_passesAlone_62 : decode cX0_passesAlone 62 = .ok (.if_icmp .ne 10, 3) := by decide +kernel
theorem dX0_passesAlone_65 : decode cX0_passesAlone 65 = .ok (.iload 6, 2) := by decide +kernel
theorem dX0_passesAlone_67 : decode cX0_passesAlone 67 = .ok (.iconst 2, 1) := by decide +kernel
theorem dX0_passesAlone_68 : decode cX0_passesAlone 68 = .ok (.idiv, 1) := by decide +kernel
theorem dX0_passesAlone_69 : decode cX0_passesAlone 69 = .ok (.goto 5, 3) := by decide +kernel
theorem dX0_passesAlone_72 : decode cX0_passesAlone 72 = .ok (.iload 6, 2) := by decide +kernel
theorem dX0_passesAlone_74 : decode cX0_passesAlone 74 = .ok (.aload_n 1, 1) := by decide +kernel
theorem dX0_passesAlone_75 : decode cX0_passesAlone 75 = .ok (.getfield 36, 3) := by decide +kernel
theorem dX0_passesAlone_78 : decode cX0_passesAlone 78 = .ok (.invokevirtual 40, 3) := by decide +kernel
theorem dX0_passesAlone_81 : decode cX0_passesAlone 81 = .ok (.ireturn, 1) := by decide +kernel
theorem dX0_opens_0 : decode cX0_opens 0 = .ok (.iconst 0, 1) := by decide +kernel
theorem dX0_opens_1 : decode cX0_opens 1 = .ok (.istore 4, 2) := by decide +kernel
theorem dX0_opens_3 : decode cX0_opens 3 = .ok (.iconst 0, 1) := by decide +kernel
theorem dX0_opens_4 : decode cX0_opens 4 = .ok (.istore 5, 2) := by decide +kernel
theorem dX0_opens_6 : decode cX0_opens 6 = .ok (.iload 5, 2) := by decide +kernel
theorem dX0_opens_8 : decode cX0_opens 8 = .ok (.aload_n 0, 1) := by decide +kernel
theorem dX0_opens_9 : decode cX0_opens 9 = .ok (.getfield 9, 3) := by decide +kernel
theorem dX0_opens_12 : decode cX0_opens 12 = .ok (.getfield 46, 3) := by decide +kernel
theorem dX0_opens_15 : decode cX0_opens 15 = .ok (.if_icmp .ge 30, 3) := by decide +kernel
theorem dX0_opens_18 : decode cX0_opens 18 = .ok (.aload_n 0, 1) := by decide +kernel
theorem dX0_opens_19 : decode cX0_opens 19 = .ok (.aload_n 1, 1) := by decide +kernel
theorem dX0_opens_20 : decode cX0_opens 20 = .ok (.iload_n 2, 1) := by decide +kernel
theorem dX0_opens_21 : decode cX0_opens 21 = .ok (.iload 5, 2) := by decide +kernel
theorem dX0_opens_23 : decode cX0_opens 23 = .ok (.iload_n 3, 1) := by decide +kernel
theorem dX0_opens_24 : decode cX0_opens 24 = .ok (.invokevirtual 49, 3) := by decide +kernel
theorem dX0_opens_27 : decode cX0_opens 27 = .ok (.ifCond .eq 12, 3) := by decide +kernel
theorem dX0_opens_30 : decode cX0_opens 30 = .ok (.iload 4, 2) := by decide +kernel
theorem dX0_opens_32 : decode cX0_opens 32 = .ok (.iconst 1, 1) := by decide +kernel
theorem dX0_opens_33 : decode cX0_opens 33 = .ok (.iload 5, 2) := by decide +kernel
theorem dX0_opens_35 : decode cX0_opens 35 = .ok (.ishl, 1) := by decide +kernel
theorem dX0_opens_36 : decode cX0_opens 36 = .ok (.ior, 1) := by decide +kernel
theorem dX0_opens_37 : decode cX0_opens 37 = .ok (.istore 4, 2) := by decide +kernel
theorem dX0_opens_39 : decode cX0_opens 39 = .ok (.iinc 5 1, 3) := by decide +kernel
theorem dX0_opens_42 : decode cX0_opens 42 = .ok (.goto (-36), 3) := by decide +kernel
theorem dX0_opens_45 : decode cX0_opens 45 = .ok (.iload 4, 2) := by decide +kernel
theorem dX0_opens_47 : decode cX0_opens 47 = .ok (.ireturn, 1) := by decide +kernel
theorem dX0_voices_0 : decode cX0_voices 0 = .ok (.iconst 0, 1) := by decide +kernel
theorem dX0_voices_1 : decode cX0_voices 1 = .ok (.istore 4, 2) := by decide +kernel
theorem dX0_voices_3 : decode cX0_voices 3 = .ok (.iconst 0, 1) := by decide +kernel
theorem dX0_voices_4 : decode cX0_voices 4 = .ok (.istore 5, 2) := by decide +kernel
theorem dX0_voices_6 : decode cX0_voices 6 = .ok (.iload 5, 2) := by decide +kernel
theorem dX0_voices_8 : decode cX0_voices 8 = .ok (.aload_n 0, 1) := by decide +kernel
theorem dX0_voices_9 : decode cX0_voices 9 = .ok (.getfield 9, 3) := by decide +kernel
theorem dX0_voices_12 : decode cX0_voices 12 = .ok (.getfield 53, 3) := by decide +kernel
theorem dX0_voices_15 : decode cX0_voices 15 = .ok (.if_icmp .ge 55, 3) := by decide +kernel
theorem dX0_voices_18 : decode cX0_voices 18 = .ok (.aload_n 0, 1) := by decide +kernel
theorem dX0_voices_19 : decode cX0_voices 19 = .ok (.getfield 9, 3) := by decide +kernel
theorem dX0_voices_22 : decode cX0_voices 22 = .ok (.getfield 15, 3) := by decide +kernel
theorem dX0_voices_25 : decode cX0_voices 25 = .ok (.iload 5, 2) := by decide +kernel
theorem dX0_voices_27 : decode cX0_voices 27 = .ok (.iaload, 1) := by decide +kernel
theorem dX0_voices_28 : decode cX0_voices 28 = .ok (.iconst 1, 1) := by decide +kernel
theorem dX0_voices_29 : decode cX0_voices 29 = .ok (.if_icmp .eq 35, 3) := by decide +kernel
theorem dX0_voices_32 : decode cX0_voices 32 = .ok (.aload_n 1, 1) := by decide +kernel
theorem dX0_voices_33 : decode cX0_voices 33 = .ok (.getfield 56, 3) := by decide +kernel
theorem dX0_voices_36 : decode cX0_voices 36 = .ok (.iload 5, 2) := by decide +kernel
theorem dX0_voices_38 : decode cX0_voices 38 = .ok (.iaload, 1) := by decide +kernel
theorem dX0_voices_39 : decode cX0_voices 39 = .ok (.iload_n 2, 1) := by decide +kernel
theorem dX0_voices_40 : decode cX0_voices 40 = .ok (.if_icmp .ne 24, 3) := by decide +kernel
theorem dX0_voices_43 : decode cX0_voices 43 = .ok (.aload_n 0, 1) := by decide +kernel
theorem dX0_voices_44 : decode cX0_voices 44 = .ok (.aload_n 1, 1) := by decide +kernel
theorem dX0_voices_45 : decode cX0_voices 45 = .ok (.iload 5, 2) := by decide +kernel
theorem dX0_voices_47 : decode cX0_voices 47 = .ok (.iload_n 3, 1) := by decide +kernel
theorem dX0_voices_48 : decode cX0_voices 48 = .ok (.iconst 0, 1) := by decide +kernel
theorem dX0_voices_49 : decode cX0_voices 49 = .ok (.invokevirtual 49, 3) := by decide +kernel
theorem dX0_voices_52 : decode cX0_voices 52 = .ok (.ifCond .eq 12, 3) := by decide +kernel
theorem dX0_voices_55 : decode cX0_voices 55 = .ok (.iload 4, 2) := by decide +kernel
theorem dX0_voices_57 : decode cX0_voices 57 = .ok (.iconst 1, 1) := by decide +kernel
theorem dX0_voices_58 : decode cX0_voices 58 = .ok (.iload 5, 2) := by decide +kernel
theorem dX0_voices_60 : decode cX0_voices 60 = .ok (.ishl, 1) := by decide +kernel
theorem dX0_voices_61 : decode cX0_voices 61 = .ok (.ior, 1) := by decide +kernel
theorem dX0_voices_62 : decode cX0_voices 62 = .ok (.istore 4, 2) := by decide +kernel
theorem dX0_voices_64 : decode cX0_voices 64 = .ok (.iinc 5 1, 3) := by decide +kernel
theorem dX0_voices_67 : decode cX0_voices 67 = .ok (.goto (-61), 3) := by decide +kernel
theorem dX0_voices_70 : decode cX0_voices 70 = .ok (.iload 4, 2) := by decide +kernel
theorem dX0_voices_72 : decode cX0_voices 72 = .ok (.ireturn, 1) := by decide +kernel
theorem dX0_lets_0 : decode cX0_lets 0 = .ok (.aload_n 0, 1) := by decide +kernel
theorem dX0_lets_1 : decode cX0_lets 1 = .ok (.getfield 9, 3) := by decide +kernel
theorem dX0_lets_4 : decode cX0_lets 4 = .ok (.getfield 15, 3) := by decide +kernel
theorem dX0_lets_7 : decode cX0_lets 7 = .ok (.iload_n 2, 1) := by decide +kernel
theorem dX0_lets_8 : decode cX0_lets 8 = .ok (.iaload, 1) := by decide +kernel
theorem dX0_lets_9 : decode cX0_lets 9 = .ok (.iconst 1, 1) := by decide +kernel
theorem dX0_lets_10 : decode cX0_lets 10 = .ok (.if_icmp .ne 24, 3) := by decide +kernel
theorem dX0_lets_13 : decode cX0_lets 13 = .ok (.aload_n 0, 1) := by decide +kernel
theorem dX0_lets_14 : decode cX0_lets 14 = .ok (.aload_n 1, 1) := by decide +kernel
theorem dX0_lets_15 : decode cX0_lets 15 = .ok (.aload_n 1, 1) := by decide +kernel
theorem dX0_lets_16 : decode cX0_lets 16 = .ok (.getfield 56, 3) := by decide +kernel
theorem dX0_lets_19 : decode cX0_lets 19 = .ok (.iload_n 2, 1) := by decide +kernel
theorem dX0_lets_20 : decode cX0_lets 20 = .ok (.iaload, 1) := by decide +kernel
theorem dX0_lets_21 : decode cX0_lets 21 = .ok (.iload_n 3, 1) := by decide +kernel
theorem dX0_lets_22 : decode cX0_lets 22 = .ok (.invokevirtual 59, 3) := by decide +kernel
theorem dX0_lets_25 : decode cX0_lets 25 = .ok (.ifCond .eq 7, 3) := by decide +kernel
theorem dX0_lets_28 : decode cX0_lets 28 = .ok (.iconst 1, 1) := by decide +kernel
theorem dX0_lets_29 : decode cX0_lets 29 = .ok (.goto 4, 3) := by decide +kernel
theorem dX0_lets_32 : decode cX0_lets 32 = .ok (.iconst 0, 1) := by decide +kernel
theorem dX0_lets_33 : decode cX0_lets 33 = .ok (.ireturn, 1) := by decide +kernel
theorem dX0_lets_34 : decode cX0_lets 34 = .ok (.aload_n 0, 1) := by decide +kernel
theorem dX0_lets_35 : decode cX0_lets 35 = .ok (.aload_n 1, 1) := by decide +kernel
theorem dX0_lets_36 : decode cX0_lets 36 = .ok (.iload_n 2, 1) := by decide +kernel
theorem dX0_lets_37 : decode cX0_lets 37 = .ok (.iload_n 3, 1) := by decide +kernel
theorem dX0_lets_38 : decode cX0_lets 38 = .ok (.iconst 0, 1) := by decide +kernel
theorem dX0_lets_39 : decode cX0_lets 39 = .ok (.invokevirtual 49, 3) := by decide +kernel
theorem dX0_lets_42 : decode cX0_lets 42 = .ok (.ireturn, 1) := by decide +kernel
theorem dX0_letThrough_0 : decode cX0_letThrough 0 = .ok (.iconst 0, 1) := by decide +kernel
theorem dX0_letThrough_1 : decode cX0_letThrough 1 = .ok (.istore_n 3, 1) := by decide +kernel
theorem dX0_letThrough_2 : decode cX0_letThrough 2 = .ok (.iconst 0, 1) := by decide +kernel
theorem dX0_letThrough_3 : decode cX0_letThrough 3 = .ok (.istore 4, 2) := by decide +kernel
theorem dX0_letThrough_5 : decode cX0_letThrough 5 = .ok (.iload 4, 2) := by decide +kernel
theorem dX0_letThrough_7 : decode cX0_letThrough 7 = .ok (.aload_n 0, 1) := by decide +kernel
theorem dX0_letThrough_8 : decode cX0_letThrough 8 = .ok (.getfield 9, 3) := by decide +kernel
theorem dX0_letThrough_11 : decode cX0_letThrough 11 = .ok (.getfield 53, 3) := by decide +kernel
theorem dX0_letThrough_14 : decode cX0_letThrough 14 = .ok (.if_icmp .ge 27, 3) := by decide +kernel
theorem dX0_letThrough_17 : decode cX0_letThrough 17 = .ok (.aload_n 0, 1) := by decide +kernel
theorem dX0_letThrough_18 : decode cX0_letThrough 18 = .ok (.aload_n 1, 1) := by decide +kernel
theorem dX0_letThrough_19 : decode cX0_letThrough 19 = .ok (.iload 4, 2) := by decide +kernel
theorem dX0_letThrough_21 : decode cX0_letThrough 21 = .ok (.iload_n 2, 1) := by decide +kernel
theorem dX0_letThrough_22 : decode cX0_letThrough 22 = .ok (.invokevirtual 63, 3) := by decide +kernel
theorem dX0_letThrough_25 : decode cX0_letThrough 25 = .ok (.ifCond .eq 10, 3) := by decide +kernel
theorem dX0_letThrough_28 : decode cX0_letThrough 28 = .ok (.iload_n 3, 1) := by decide +kernel
theorem dX0_letThrough_29 : decode cX0_letThrough 29 = .ok (.iconst 1, 1) := by decide +kernel
theorem dX0_letThrough_30 : decode cX0_letThrough 30 = .ok (.iload 4, 2) := by decide +kernel
theorem dX0_letThrough_32 : decode cX0_letThrough 32 = .ok (.ishl, 1) := by decide +kernel
theorem dX0_letThrough_33 : decode cX0_letThrough 33 = .ok (.ior, 1) := by decide +kernel
theorem dX0_letThrough_34 : decode cX0_letThrough 34 = .ok (.istore_n 3, 1) := by decide +kernel
theorem dX0_letThrough_35 : decode cX0_letThrough 35 = .ok (.iinc 4 1, 3) := by decide +kernel
theorem dX0_letThrough_38 : decode cX0_letThrough 38 = .ok (.goto (-33), 3) := by decide +kernel
theorem dX0_letThrough_41 : decode cX0_letThrough 41 = .ok (.iload_n 3, 1) := by decide +kernel
theorem dX0_letThrough_42 : decode cX0_letThrough 42 = .ok (.ireturn, 1) := by decide +kernel
theorem dX0_canGo_0 : decode cX0_canGo 0 = .ok (.aload_n 0, 1) := by decide +kernel
theorem dX0_canGo_1 : decode cX0_canGo 1 = .ok (.getfield 9, 3) := by decide +kernel
theorem dX0_canGo_4 : decode cX0_canGo 4 = .ok (.getfield 67, 3) := by decide +kernel
theorem dX0_canGo_7 : decode cX0_canGo 7 = .ok (.aload_n 1, 1) := by decide +kernel
theorem dX0_canGo_8 : decode cX0_canGo 8 = .ok (.getfield 56, 3) := by decide +kernel
theorem dX0_canGo_11 : decode cX0_canGo 11 = .ok (.iload_n 2, 1) := by decide +kernel
theorem dX0_canGo_12 : decode cX0_canGo 12 = .ok (.iaload, 1) := by decide +kernel
theorem dX0_canGo_13 : decode cX0_canGo 13 = .ok (.iaload, 1) := by decide +kernel
theorem dX0_canGo_14 : decode cX0_canGo 14 = .ok (.iload_n 3, 1) := by decide +kernel
theorem dX0_canGo_15 : decode cX0_canGo 15 = .ok (.invokestatic 70, 3) := by decide +kernel
theorem dX0_canGo_18 : decode cX0_canGo 18 = .ok (.ifCond .eq 17, 3) := by decide +kernel
theorem dX0_canGo_21 : decode cX0_canGo 21 = .ok (.aload_n 0, 1) := by decide +kernel
theorem dX0_canGo_22 : decode cX0_canGo 22 = .ok (.aload_n 1, 1) := by decide +kernel
theorem dX0_canGo_23 : decode cX0_canGo 23 = .ok (.iload_n 2, 1) := by decide +kernel
theorem dX0_canGo_24 : decode cX0_canGo 24 = .ok (.iload_n 3, 1) := by decide +kernel
theorem dX0_canGo_25 : decode cX0_canGo 25 = .ok (.invokevirtual 63, 3) := by decide +kernel
theorem dX0_canGo_28 : decode cX0_canGo 28 = .ok (.ifCond .eq 7, 3) := by decide +kernel
theorem dX0_canGo_31 : decode cX0_canGo 31 = .ok (.iconst 1, 1) := by decide +kernel
theorem dX0_canGo_32 : decode cX0_canGo 32 = .ok (.goto 4, 3) := by decide +kernel
theorem dX0_canGo_35 : decode cX0_canGo 35 = .ok (.iconst 0, 1) := by decide +kernel
theorem dX0_canGo_36 : decode cX0_canGo 36 = .ok (.ireturn, 1) := by decide +kernel
theorem dX0_canForge_0 : decode cX0_canForge 0 = .ok (.aload_n 0, 1) := by decide +kernel
theorem dX0_canForge_1 : decode cX0_canForge 1 = .ok (.getfield 9, 3) := by decide +kernel
theorem dX0_canForge_4 : decode cX0_canForge 4 = .ok (.getfield 15, 3) := by decide +kernel
theorem dX0_canForge_7 : decode cX0_canForge 7 = .ok (.iload_n 2, 1) := by decide +kernel
theorem dX0_canForge_8 : decode cX0_canForge 8 = .ok (.iaload, 1) := by decide +kernel
theorem dX0_canForge_9 : decode cX0_canForge 9 = .ok (.iconst 1, 1) := by decide +kernel
theorem dX0_canForge_10 : decode cX0_canForge 10 = .ok (.if_icmp .eq 43, 3) := by decide +kernel
theorem dX0_canForge_13 : decode cX0_canForge 13 = .ok (.iload_n 3, 1) := by decide +kernel
theorem dX0_canForge_14 : decode cX0_canForge 14 = .ok (.iconst 1, 1) := by decide +kernel
theorem dX0_canForge_15 : decode cX0_canForge 15 = .ok (.if_icmp .lt 38, 3) := by decide +kernel
theorem dX0_canForge_18 : decode cX0_canForge 18 = .ok (.iload_n 3, 1) := by decide +kernel
theorem dX0_canForge_19 : decode cX0_canForge 19 = .ok (.bipush 20, 2) := by decide +kernel
theorem dX0_canForge_21 : decode cX0_canForge 21 = .ok (.aload_n 1, 1) := by decide +kernel
theorem dX0_canForge_22 : decode cX0_canForge 22 = .ok (.getfield 24, 3) := by decide +kernel
theorem dX0_canForge_25 : decode cX0_canForge 25 = .ok (.iload_n 2, 1) := by decide +kernel
theorem dX0_canForge_26 : decode cX0_canForge 26 = .ok (.iaload, 1) := by decide +kernel
theorem dX0_canForge_27 : decode cX0_canForge 27 = .ok (.isub, 1) := by decide +kernel
theorem dX0_canForge_28 : decode cX0_canForge 28 = .ok (.if_icmp .gt 25, 3) := by decide +kernel
theorem dX0_canForge_31 : decode cX0_canForge 31 = .ok (.iload_n 3, 1) := by decide +kernel
theorem dX0_canForge_32 : decode cX0_canForge 32 = .ok (.aload_n 0, 1) := by decide +kernel
theorem dX0_canForge_33 : decode cX0_canForge 33 = .ok (.getfield 9, 3) := by decide +kernel
theorem dX0_canForge_36 : decode cX0_canForge 36 = .ok (.getfield 74, 3) := by decide +kernel
theorem dX0_canForge_39 : decode cX0_canForge 39 = .ok (.imul, 1) := by decide +kernel
theorem dX0_canForge_40 : decode cX0_canForge 40 = .ok (.aload_n 1, 1) := by decide +kernel
theorem dX0_canForge_41 : decode cX0_canForge 41 = .ok (.getfield 77, 3) := by decide +kernel
theorem dX0_canForge_44 : decode cX0_canForge 44 = .ok (.iload_n 2, 1) := by decide +kernel
theorem dX0_canForge_45 : decode cX0_canForge 45 = .ok (.iaload, 1) := by decide +kernel
theorem dX0_canForge_46 : decode cX0_canForge 46 = .ok (.if_icmp .gt 7, 3) := by decide +kernel
theorem dX0_canForge_49 : decode cX0_canForge 49 = .ok (.iconst 1, 1) := by decide +kernel
theorem dX0_canForge_50 : decode cX0_canForge 50 = .ok (.goto 4, 3) := by decide +kernel
theorem dX0_canForge_53 : decode cX0_canForge 53 = .ok (.iconst 0, 1) := by decide +kernel
theorem dX0_canForge_54 : decode cX0_canForge 54 = .ok (.ireturn, 1) := by decide +kernel
theorem dX0_sell_0 : decode cX0_sell 0 = .ok (.aload_n 1, 1) := by decide +kernel
theorem dX0_sell_1 : decode cX0_sell 1 = .ok (.getfield 24, 3) := by decide +kernel
theorem dX0_sell_4 : decode cX0_sell 4 = .ok (.iload_n 2, 1) := by decide +kernel
theorem dX0_sell_5 : decode cX0_sell 5 = .ok (.dup2, 1) := by decide +kernel
theorem dX0_sell_6 : decode cX0_sell 6 = .ok (.iaload, 1) := by decide +kernel
theorem dX0_sell_7 : decode cX0_sell 7 = .ok (.iload_n 3, 1) := by decide +kernel
theorem dX0_sell_8 : decode cX0_sell 8 = .ok (.iadd, 1) := by decide +kernel
theorem dX0_sell_9 : decode cX0_sell 9 = .ok (.iastore, 1) := by decide +kernel
theorem dX0_sell_10 : decode cX0_sell 10 = .ok (.aload_n 1, 1) := by decide +kernel
theorem dX0_sell_11 : decode cX0_sell 11 = .ok (.getfield 77, 3) := by decide +kernel
theorem dX0_sell_14 : decode cX0_sell 14 = .ok (.iload_n 2, 1) := by decide +kernel
theorem dX0_sell_15 : decode cX0_sell 15 = .ok (.dup2, 1) := by decide +kernel
theorem dX0_sell_16 : decode cX0_sell 16 = .ok (.iaload, 1) := by decide +kernel
theorem dX0_sell_17 : decode cX0_sell 17 = .ok (.iload_n 3, 1) := by decide +kernel
theorem dX0_sell_18 : decode cX0_sell 18 = .ok (.aload_n 0, 1) := by decide +kernel
theorem dX0_sell_19 : decode cX0_sell 19 = .ok (.getfield 9, 3) := by decide +kernel
theorem dX0_sell_22 : decode cX0_sell 22 = .ok (.getfield 74, 3) := by decide +kernel
theorem dX0_sell_25 : decode cX0_sell 25 = .ok (.imul, 1) := by decide +kernel
theorem dX0_sell_26 : decode cX0_sell 26 = .ok (.isub, 1) := by decide +kernel
theorem dX0_sell_27 : decode cX0_sell 27 = .ok (.iastore, 1) := by decide +kernel
theorem dX0_sell_28 : decode cX0_sell 28 = .ok (.return_, 1) := by decide +kernel
theorem dX0_passWeek_0 : decode cX0_passWeek 0 = .ok (.aload_n 1, 1) := by decide +kernel
theorem dX0_passWeek_1 : decode cX0_passWeek 1 = .ok (.dup, 1) := by decide +kernel
theorem dX0_passWeek_2 : decode cX0_passWeek 2 = .ok (.getfield 36, 3) := by decide +kernel
theorem dX0_passWeek_5 : decode cX0_passWeek 5 = .ok (.iconst 1, 1) := by decide +kernel
theorem dX0_passWeek_6 : decode cX0_passWeek 6 = .ok (.iadd, 1) := by decide +kernel
theorem dX0_passWeek_7 : decode cX0_passWeek 7 = .ok (.putfield 36, 3) := by decide +kernel
theorem dX0_passWeek_10 : decode cX0_passWeek 10 = .ok (.iconst 0, 1) := by decide +kernel
theorem dX0_passWeek_11 : decode cX0_passWeek 11 = .ok (.istore_n 2, 1) := by decide +kernel
theorem dX0_passWeek_12 : decode cX0_passWeek 12 = .ok (.iload_n 2, 1) := by decide +kernel
theorem dX0_passWeek_13 : decode cX0_passWeek 13 = .ok (.aload_n 0, 1) := by decide +kernel
theorem dX0_passWeek_14 : decode cX0_passWeek 14 = .ok (.getfield 9, 3) := by decide +kernel
theorem dX0_passWeek_17 : decode cX0_passWeek 17 = .ok (.getfield 53, 3) := by decide +kernel
theorem dX0_passWeek_20 : decode cX0_passWeek 20 = .ok (.if_icmp .ge 49, 3) := by decide +kernel
theorem dX0_passWeek_23 : decode cX0_passWeek 23 = .ok (.aload_n 0, 1) := by decide +kernel
theorem dX0_passWeek_24 : decode cX0_passWeek 24 = .ok (.getfield 9, 3) := by decide +kernel
theorem dX0_passWeek_27 : decode cX0_passWeek 27 = .ok (.getfield 15, 3) := by decide +kernel
theorem dX0_passWeek_30 : decode cX0_passWeek 30 = .ok (.iload_n 2, 1) := by decide +kernel
theorem dX0_passWeek_31 : decode cX0_passWeek 31 = .ok (.iaload, 1) := by decide +kernel
theorem dX0_passWeek_32 : decode cX0_passWeek 32 = .ok (.iconst 1, 1) := by decide +kernel
theorem dX0_passWeek_33 : decode cX0_passWeek 33 = .ok (.if_icmp .eq 30, 3) := by decide +kernel
theorem dX0_passWeek_36 : decode cX0_passWeek 36 = .ok (.aload_n 1, 1) := by decide +kernel
theorem dX0_passWeek_37 : decode cX0_passWeek 37 = .ok (.getfield 33, 3) := by decide +kernel
theorem dX0_passWeek_40 : decode cX0_passWeek 40 = .ok (.iload_n 2, 1) := by decide +kernel
theorem dX0_passWeek_41 : decode cX0_passWeek 41 = .ok (.iaload, 1) := by decide +kernel
theorem dX0_passWeek_42 : decode cX0_passWeek 42 = .ok (.aload_n 0, 1) := by decide +kernel
theorem dX0_passWeek_43 : decode cX0_passWeek 43 = .ok (.getfield 9, 3) := by decide +kernel
theorem dX0_passWeek_46 : decode cX0_passWeek 46 = .ok (.getfield 80, 3) := by decide +kernel
theorem dX0_passWeek_49 : decode cX0_passWeek 49 = .ok (.iadd, 1) := by decide +kernel
theorem dX0_passWeek_50 : decode cX0_passWeek 50 = .ok (.istore_n 3, 1) := by decide +kernel
theorem dX0_passWeek_51 : decode cX0_passWeek 51 = .ok (.aload_n 1, 1) := by decide +kernel
theorem dX0_passWeek_52 : decode cX0_passWeek 52 = .ok (.getfield 33, 3) := by decide +kernel
theorem dX0_passWeek_55 : decode cX0_passWeek 55 = .ok (.iload_n 2, 1) := by decide +kernel
theorem dX0_passWeek_56 : decode cX0_passWeek 56 = .ok (.iload_n 3, 1) := by decide +kernel
theorem dX0_passWeek_57 : decode cX0_passWeek 57 = .ok (.bipush 60, 2) := by decide +kernel
theorem dX0_passWeek_59 : decode cX0_passWeek 59 = .ok (.invokestatic 83, 3) := by decide +kernel
theorem dX0_passWeek_62 : decode cX0_passWeek 62 = .ok (.iastore, 1) := by decide +kernel
theorem dX0_passWeek_63 : decode cX0_passWeek 63 = .ok (.iinc 2 1, 3) := by decide +kernel
theorem dX0_passWeek_66 : decode cX0_passWeek 66 = .ok (.goto (-54), 3) := by decide +kernel
theorem dX0_passWeek_69 : decode cX0_passWeek 69 = .ok (.return_, 1) := by decide +kernel
theorem dX1_copy_0 : decode cX1_copy 0 = .ok (.aload_n 0, 1) := by decide +kernel
theorem dX1_copy_1 : decode cX1_copy 1 = .ok (.aload_n 1, 1) := by decide +kernel
theorem dX1_copy_2 : decode cX1_copy 2 = .ok (.getfield 21, 3) := by decide +kernel
theorem dX1_copy_5 : decode cX1_copy 5 = .ok (.putfield 21, 3) := by decide +kernel
theorem dX1_copy_8 : decode cX1_copy 8 = .ok (.aload_n 1, 1) := by decide +kernel
theorem dX1_copy_9 : decode cX1_copy 9 = .ok (.getfield 9, 3) := by decide +kernel
theorem dX1_copy_12 : decode cX1_copy 12 = .ok (.iconst 0, 1) := by decide +kernel
theorem dX1_copy_13 : decode cX1_copy 13 = .ok (.aload_n 0, 1) := by decide +kernel
theorem dX1_copy_14 : decode cX1_copy 14 = .ok (.getfield 9, 3) := by decide +kernel
theorem dX1_copy_17 : decode cX1_copy 17 = .ok (.iconst 0, 1) := by decide +kernel
theorem dX1_copy_18 : decode cX1_copy 18 = .ok (.aload_n 0, 1) := by decide +kernel
theorem dX1_copy_19 : decode cX1_copy 19 = .ok (.getfield 21, 3) := by decide +kernel
theorem dX1_copy_22 : decode cX1_copy 22 = .ok (.invokestatic 25, 3) := by decide +kernel
theorem dX1_copy_25 : decode cX1_copy 25 = .ok (.aload_n 1, 1) := by decide +kernel
theorem dX1_copy_26 : decode cX1_copy 26 = .ok (.getfield 15, 3) := by decide +kernel
theorem dX1_copy_29 : decode cX1_copy 29 = .ok (.iconst 0, 1) := by decide +kernel
theorem dX1_copy_30 : decode cX1_copy 30 = .ok (.aload_n 0, 1) := by decide +kernel
theorem dX1_copy_31 : decode cX1_copy 31 = .ok (.getfield 15, 3) := by decide +kernel
theorem dX1_copy_34 : decode cX1_copy 34 = .ok (.iconst 0, 1) := by decide +kernel
theorem dX1_copy_35 : decode cX1_copy 35 = .ok (.aload_n 0, 1) := by decide +kernel
theorem dX1_copy_36 : decode cX1_copy 36 = .ok (.getfield 21, 3) := by decide +kernel
theorem dX1_copy_39 : decode cX1_copy 39 = .ok (.invokestatic 25, 3) := by decide +kernel
theorem dX1_copy_42 : decode cX1_copy 42 = .ok (.aload_n 1, 1) := by decide +kernel
theorem dX1_copy_43 : decode cX1_copy 43 = .ok (.getfield 18, 3) := by decide +kernel
theorem dX1_copy_46 : decode cX1_copy 46 = .ok (.iconst 0, 1) := by decide +kernel
theorem dX1_copy_47 : decode cX1_copy 47 = .ok (.aload_n 0, 1) := by decide +kernel
theorem dX1_copy_48 : decode cX1_copy 48 = .ok (.getfield 18, 3) := by decide +kernel
theorem dX1_copy_51 : decode cX1_copy 51 = .ok (.iconst 0, 1) := by decide +kernel
theorem dX1_copy_52 : decode cX1_copy 52 = .ok (.aload_n 0, 1) := by decide +kernel
theorem dX1_copy_53 : decode cX1_copy 53 = .ok (.getfield 21, 3) := by decide +kernel
theorem dX1_copy_56 : decode cX1_copy 56 = .ok (.invokestatic 25, 3) := by decide +kernel
theorem dX1_copy_59 : decode cX1_copy 59 = .ok (.return_, 1) := by decide +kernel
theorem dX1_read_0 : decode cX1_read 0 = .ok (.aload_n 0, 1) := by decide +kernel
theorem dX1_read_1 : decode cX1_read 1 = .ok (.iconst 0, 1) := by decide +kernel
theorem dX1_read_2 : decode cX1_read 2 = .ok (.putfield 21, 3) := by decide +kernel
theorem dX1_read_5 : decode cX1_read 5 = .ok (.aload_n 1, 1) := by decide +kernel
theorem dX1_read_6 : decode cX1_read 6 = .ok (.invokevirtual 31, 3) := by decide +kernel
theorem dX1_read_9 : decode cX1_read 9 = .ok (.iconst 0, 1) := by decide +kernel
theorem dX1_read_10 : decode cX1_read 10 = .ok (.istore_n 3, 1) := by decide +kernel
theorem dX1_read_11 : decode cX1_read 11 = .ok (.iload_n 3, 1) := by decide +kernel
theorem dX1_read_12 : decode cX1_read 12 = .ok (.sipush 1000, 3) := by decide +kernel
theorem dX1_read_15 : decode cX1_read 15 = .ok (.if_icmp .ge 40, 3) := by decide +kernel
theorem dX1_read_18 : decode cX1_read 18 = .ok (.aload_n 1, 1) := by decide +kernel
theorem dX1_read_19 : decode cX1_read 19 = .ok (.getfield 36, 3) := by decide +kernel
theorem dX1_read_22 : decode cX1_read 22 = .ok (.getstatic 40, 3) := by decide +kernel
theorem dX1_read_25 : decode cX1_read 25 = .ok (.if_acmp .eq 30, 3) := by decide +kernel
theorem dX1_read_28 : decode cX1_read 28 = .ok (.aload_n 0, 1) := by decide +kernel
theorem dX1_read_29 : decode cX1_read 29 = .ok (.aload_n 1, 1) := by decide +kernel
theorem dX1_read_30 : decode cX1_read 30 = .ok (.aload_n 2, 1) := by decide +kernel
theorem dX1_read_31 : decode cX1_read 31 = .ok (.invokevirtual 45, 3) := by decide +kernel
theorem dX1_read_34 : decode cX1_read 34 = .ok (.ifCond .eq 13, 3) := by decide +kernel
theorem dX1_read_37 : decode cX1_read 37 = .ok (.aload_n 1, 1) := by decide +kernel
theorem dX1_read_38 : decode cX1_read 38 = .ok (.getstatic 49, 3) := by decide +kernel
theorem dX1_read_41 : decode cX1_read 41 = .ok (.invokevirtual 52, 3) := by decide +kernel
theorem dX1_read_44 : decode cX1_read 44 = .ok (.ifCond .ne 5, 3) := by decide +kernel
theorem dX1_read_47 : decode cX1_read 47 = .ok (.iconst 0, 1) := by decide +kernel
theorem dX1_read_48 : decode cX1_read 48 = .ok (.ireturn, 1) := by decide +kernel
theorem dX1_read_49 : decode cX1_read 49 = .ok (.iinc 3 1, 3) := by decide +kernel
theorem dX1_read_52 : decode cX1_read 52 = .ok (.goto (-41), 3) := by decide +kernel
theorem dX1_read_55 : decode cX1_read 55 = .ok (.iconst 1, 1) := by decide +kernel
theorem dX1_read_56 : decode cX1_read 56 = .ok (.ireturn, 1) := by decide +kernel
theorem dX1_readLine_0 : decode cX1_readLine 0 = .ok (.aload_n 1, 1) := by decide +kernel
theorem dX1_readLine_1 : decode cX1_readLine 1 = .ok (.invokestatic 56, 3) := by decide +kernel
theorem dX1_readLine_4 : decode cX1_readLine 4 = .ok (.istore_n 3, 1) := by decide +kernel
theorem dX1_readLine_5 : decode cX1_readLine 5 = .ok (.iload_n 3, 1) := by decide +kernel
theorem dX1_readLine_6 : decode cX1_readLine 6 = .ok (.iconst (-1), 1) := by decide +kernel
theorem dX1_readLine_7 : decode cX1_readLine 7 = .ok (.if_icmp .ne 9, 3) := by decide +kernel
theorem dX1_readLine_10 : decode cX1_readLine 10 = .ok (.aload_n 1, 1) := by decide +kernel
theorem dX1_readLine_11 : decode cX1_readLine 11 = .ok (.iconst 1, 1) := by decide +kernel
theorem dX1_readLine_12 : decode cX1_readLine 12 = .ok (.invokevirtual 60, 3) := by decide +kernel
theorem dX1_readLine_15 : decode cX1_readLine 15 = .ok (.ireturn, 1) := by decide +kernel
theorem dX1_readLine_16 : decode cX1_readLine 16 = .ok (.aload_n 0, 1) := by decide +kernel
theorem dX1_readLine_17 : decode cX1_readLine 17 = .ok (.getfield 21, 3) := by decide +kernel
theorem dX1_readLine_20 : decode cX1_readLine 20 = .ok (.bipush 40, 2) := by decide +kernel
theorem dX1_readLine_22 : decode cX1_readLine 22 = .ok (.if_icmp .lt 9, 3) := by decide +kernel
theorem dX1_readLine_25 : decode cX1_readLine 25 = .ok (.aload_n 1, 1) := by decide +kernel
theorem dX1_readLine_26 : decode cX1_readLine 26 = .ok (.iconst 5, 1) := by decide +kernel
theorem dX1_readLine_27 : decode cX1_readLine 27 = .ok (.invokevirtual 60, 3) := by decide +kernel
theorem dX1_readLine_30 : decode cX1_readLine 30 = .ok (.ireturn, 1) := by decide +kernel
theorem dX1_readLine_31 : decode cX1_readLine 31 = .ok (.aload_n 0, 1) := by decide +kernel
theorem dX1_readLine_32 : decode cX1_readLine 32 = .ok (.getfield 21, 3) := by decide +kernel
theorem dX1_readLine_35 : decode cX1_readLine 35 = .ok (.istore 4, 2) := by decide +kernel
theorem dX1_readLine_37 : decode cX1_readLine 37 = .ok (.aload_n 0, 1) := by decide +kernel
theorem dX1_readLine_38 : decode cX1_readLine 38 = .ok (.dup, 1) := by decide +kernel
theorem dX1_readLine_39 : decode cX1_readLine 39 = .ok (.getfield 21, 3) := by decide +kernel
theorem dX1_readLine_42 : decode cX1_readLine 42 = .ok (.iconst 1, 1) := by decide +kernel
theorem dX1_readLine_43 : decode cX1_readLine 43 = .ok (.iadd, 1) := by decide +kernel
theorem dX1_readLine_44 : decode cX1_readLine 44 = .ok (.putfield 21, 3) := by decide +kernel
theorem dX1_readLine_47 : decode cX1_readLine 47 = .ok (.aload_n 0, 1) := by decide +kernel
theorem dX1_readLine_48 : decode cX1_readLine 48 = .ok (.getfield 9, 3) := by decide +kernel
theorem dX1_readLine_51 : decode cX1_readLine 51 = .ok (.iload 4, 2) := by decide +kernel
theorem dX1_readLine_53 : decode cX1_readLine 53 = .ok (.iload_n 3, 1) := by decide +kernel
theorem dX1_readLine_54 : decode cX1_readLine 54 = .ok (.iastore, 1) := by decide +kernel
theorem dX1_readLine_55 : decode cX1_readLine 55 = .ok (.aload_n 0, 1) := by decide +kernel
theorem dX1_readLine_56 : decode cX1_readLine 56 = .ok (.getfield 15, 3) := by decide +kernel
theorem dX1_readLine_59 : decode cX1_readLine 59 = .ok (.iload 4, 2) := by decide +kernel
theorem dX1_readLine_61 : decode cX1_readLine 61 = .ok (.iconst 0, 1) := by decide +kernel
theorem dX1_readLine_62 : decode cX1_readLine 62 = .ok (.iastore, 1) := by decide +kernel
theorem dX1_readLine_63 : decode cX1_readLine 63 = .ok (.aload_n 0, 1) := by decide +kernel
theorem dX1_readLine_64 : decode cX1_readLine 64 = .ok (.getfield 18, 3) := by decide +kernel
theorem dX1_readLine_67 : decode cX1_readLine 67 = .ok (.iload 4, 2) := by decide +kernel
theorem dX1_readLine_69 : decode cX1_readLine 69 = .ok (.iconst 0, 1) := by decide +kernel
theorem dX1_readLine_70 : decode cX1_readLine 70 = .ok (.iastore, 1) := by decide +kernel
theorem dX1_readLine_71 : decode cX1_readLine 71 = .ok (.aload_n 1, 1) := by decide +kernel
theorem dX1_readLine_72 : decode cX1_readLine 72 = .ok (.invokevirtual 64, 3) := by decide +kernel
theorem dX1_readLine_75 : decode cX1_readLine 75 = .ok (.iload_n 3, 1) := by decide +kernel
theorem dX1_readLine_76 : decode cX1_readLine 76 = .ok (.iconst 3, 1) := by decide +kernel
theorem dX1_readLine_77 : decode cX1_readLine 77 = .ok (.if_icmp .eq 14, 3) := by decide +kernel
theorem dX1_readLine_80 : decode cX1_readLine 80 = .ok (.aload_n 0, 1) := by decide +kernel
theorem dX1_readLine_81 : decode cX1_readLine 81 = .ok (.aload_n 1, 1) := by decide +kernel
theorem dX1_readLine_82 : decode cX1_readLine 82 = .ok (.aload_n 2, 1) := by decide +kernel
theorem dX1_readLine_83 : decode cX1_readLine 83 = .ok (.iload 4, 2) := by decide +kernel
theorem dX1_readLine_85 : decode cX1_readLine 85 = .ok (.invokevirtual 67, 3) := by decide +kernel
theorem dX1_readLine_88 : decode cX1_readLine 88 = .ok (.ifCond .eq 7, 3) := by decide +kernel
theorem dX1_readLine_91 : decode cX1_readLine 91 = .ok (.iconst 1, 1) := by decide +kernel
theorem dX1_readLine_92 : decode cX1_readLine 92 = .ok (.goto 4, 3) := by decide +kernel
theorem dX1_readLine_95 : decode cX1_readLine 95 = .ok (.iconst 0, 1) := by decide +kernel
theorem dX1_readLine_96 : decode cX1_readLine 96 = .ok (.ireturn, 1) := by decide +kernel
theorem dX1_readDoer_0 : decode cX1_readDoer 0 = .ok (.aload_n 0, 1) := by decide +kernel
theorem dX1_readDoer_1 : decode cX1_readDoer 1 = .ok (.getfield 15, 3) := by decide +kernel
theorem dX1_readDoer_4 : decode cX1_readDoer 4 = .ok (.iload_n 3, 1) := by decide +kernel
theorem dX1_readDoer_5 : decode cX1_readDoer 5 = .ok (.aload_n 1, 1) := by decide +kernel
theorem dX1_readDoer_6 : decode cX1_readDoer 6 = .ok (.aload_n 2, 1) := by decide +kernel
theorem dX1_readDoer_7 : decode cX1_readDoer 7 = .ok (.invokevirtual 71, 3) := by decide +kernel
theorem dX1_readDoer_10 : decode cX1_readDoer 10 = .ok (.iastore, 1) := by decide +kernel
theorem dX1_readDoer_11 : decode cX1_readDoer 11 = .ok (.aload_n 0, 1) := by decide +kernel
theorem dX1_readDoer_12 : decode cX1_readDoer 12 = .ok (.getfield 15, 3) := by decide +kernel
theorem dX1_readDoer_15 : decode cX1_readDoer 15 = .ok (.iload_n 3, 1) := by decide +kernel
theorem dX1_readDoer_16 : decode cX1_readDoer 16 = .ok (.iaload, 1) := by decide +kernel
theorem dX1_readDoer_17 : decode cX1_readDoer 17 = .ok (.iconst (-1), 1) := by decide +kernel
theorem dX1_readDoer_18 : decode cX1_readDoer 18 = .ok (.if_icmp .ne 5, 3) := by decide +kernel
theorem dX1_readDoer_21 : decode cX1_readDoer 21 = .ok (.iconst 0, 1) := by decide +kernel
theorem dX1_readDoer_22 : decode cX1_readDoer 22 = .ok (.ireturn, 1) := by decide +kernel
theorem dX1_readDoer_23 : decode cX1_readDoer 23 = .ok (.aload_n 1, 1) := by decide +kernel
theorem dX1_readDoer_24 : decode cX1_readDoer 24 = .ok (.invokevirtual 64, 3) := by decide +kernel
theorem dX1_readDoer_27 : decode cX1_readDoer 27 = .ok (.aload_n 0, 1) := by decide +kernel
theorem dX1_readDoer_28 : decode cX1_readDoer 28 = .ok (.getfield 9, 3) := by decide +kernel
theorem dX1_readDoer_31 : decode cX1_readDoer 31 = .ok (.iload_n 3, 1) := by decide +kernel
theorem dX1_readDoer_32 : decode cX1_readDoer 32 = .ok (.iaload, 1) := by decide +kernel
theorem dX1_readDoer_33 : decode cX1_readDoer 33 = .ok (.iconst 1, 1) := by decide +kernel
theorem dX1_readDoer_34 : decode cX1_readDoer 34 = .ok (.if_icmp .ne 19, 3) := by decide +kernel
theorem dX1_readDoer_37 : decode cX1_readDoer 37 = .ok (.aload_n 0, 1) := by decide +kernel
theorem dX1_readDoer_38 : decode cX1_readDoer 38 = .ok (.getfield 18, 3) := by decide +kernel
theorem dX1_readDoer_41 : decode cX1_readDoer 41 = .ok (.iload_n 3, 1) := by decide +kernel
theorem dX1_readDoer_42 : decode cX1_readDoer 42 = .ok (.aload_n 1, 1) := by decide +kernel
theorem dX1_readDoer_43 : decode cX1_readDoer 43 = .ok (.iconst 1, 1) := by decide +kernel
theorem dX1_readDoer_44 : decode cX1_readDoer 44 = .ok (.bipush 20, 2) := by decide +kernel
theorem dX1_readDoer_46 : decode cX1_readDoer 46 = .ok (.invokevirtual 75, 3) := by decide +kernel
theorem dX1_readDoer_49 : decode cX1_readDoer 49 = .ok (.iastore, 1) := by decide +kernel
theorem dX1_readDoer_50 : decode cX1_readDoer 50 = .ok (.goto 37, 3) := by decide +kernel
theorem dX1_readDoer_53 : decode cX1_readDoer 53 = .ok (.aload_n 0, 1) := by decide +kernel
theorem dX1_readDoer_54 : decode cX1_readDoer 54 = .ok (.getfield 9, 3) := by decide +kernel
theorem dX1_readDoer_57 : decode cX1_readDoer 57 = .ok (.iload_n 3, 1) := by decide +kernel
theorem dX1_readDoer_58 : decode cX1_readDoer 58 = .ok (.iaload, 1) := by decide +kernel
theorem dX1_readDoer_59 : decode cX1_readDoer 59 = .ok (.ifCond .ne 28, 3) := by decide +kernel
theorem dX1_readDoer_62 : decode cX1_readDoer 62 = .ok (.aload_n 0, 1) := by decide +kernel
theorem dX1_readDoer_63 : decode cX1_readDoer 63 = .ok (.getfield 18, 3) := by decide +kernel
theorem dX1_readDoer_66 : decode cX1_readDoer 66 = .ok (.iload_n 3, 1) := by decide +kernel
theorem dX1_readDoer_67 : decode cX1_readDoer 67 = .ok (.aload_n 1, 1) := by decide +kernel
theorem dX1_readDoer_68 : decode cX1_readDoer 68 = .ok (.aload_n 2, 1) := by decide +kernel
theorem dX1_readDoer_69 : decode cX1_readDoer 69 = .ok (.invokevirtual 79, 3) := by decide +kernel
theorem dX1_readDoer_72 : decode cX1_readDoer 72 = .ok (.iastore, 1) := by decide +kernel
theorem dX1_readDoer_73 : decode cX1_readDoer 73 = .ok (.aload_n 0, 1) := by decide +kernel
theorem dX1_readDoer_74 : decode cX1_readDoer 74 = .ok (.getfield 18, 3) := by decide +kernel
theorem dX1_readDoer_77 : decode cX1_readDoer 77 = .ok (.iload_n 3, 1) := by decide +kernel
theorem dX1_readDoer_78 : decode cX1_readDoer 78 = .ok (.iaload, 1) := by decide +kernel
theorem dX1_readDoer_79 : decode cX1_readDoer 79 = .ok (.iconst (-1), 1) := by decide +kernel
theorem dX1_readDoer_80 : decode cX1_readDoer 80 = .ok (.if_icmp .eq 7, 3) := by decide +kernel
theorem dX1_readDoer_83 : decode cX1_readDoer 83 = .ok (.aload_n 1, 1) := by decide +kernel
theorem dX1_readDoer_84 : decode cX1_readDoer 84 = .ok (.invokevirtual 64, 3) := by decide +kernel
theorem dX1_readDoer_87 : decode cX1_readDoer 87 = .ok (.aload_n 0, 1) := by decide +kernel
theorem dX1_readDoer_88 : decode cX1_readDoer 88 = .ok (.getfield 18, 3) := by decide +kernel
theorem dX1_readDoer_91 : decode cX1_readDoer 91 = .ok (.iload_n 3, 1) := by decide +kernel
theorem dX1_readDoer_92 : decode cX1_readDoer 92 = .ok (.iaload, 1) := by decide +kernel
theorem dX1_readDoer_93 : decode cX1_readDoer 93 = .ok (.iconst (-1), 1) := by decide +kernel
theorem dX1_readDoer_94 : decode cX1_readDoer 94 = .ok (.if_icmp .eq 7, 3) := by decide +kernel
theorem dX1_readDoer_97 : decode cX1_readDoer 97 = .ok (.iconst 1, 1) := by decide +kernel
theorem dX1_readDoer_98 : decode cX1_readDoer 98 = .ok (.goto 4, 3) := by decide +kernel
theorem dX1_readDoer_101 : decode cX1_readDoer 101 = .ok (.iconst 0, 1) := by decide +kernel
theorem dX1_readDoer_102 : decode cX1_readDoer 102 = .ok (.ireturn, 1) := by decide +kernel
theorem dX1_deedHere_0 : decode cX1_deedHere 0 = .ok (.aload_n 0, 1) := by decide +kernel
theorem dX1_deedHere_1 : decode cX1_deedHere 1 = .ok (.getfield 36, 3) := by decide +kernel
theorem dX1_deedHere_4 : decode cX1_deedHere 4 = .ok (.getstatic 82, 3) := by decide +kernel
theorem dX1_deedHere_7 : decode cX1_deedHere 7 = .ok (.if_acmp .ne 5, 3) := by decide +kernel
theorem dX1_deedHere_10 : decode cX1_deedHere 10 = .ok (.iconst 0, 1) := by decide +kernel
theorem dX1_deedHere_11 : decode cX1_deedHere 11 = .ok (.ireturn, 1) := by decide +kernel
theorem dX1_deedHere_12 : decode cX1_deedHere 12 = .ok (.aload_n 0, 1) := by decide +kernel
theorem dX1_deedHere_13 : decode cX1_deedHere 13 = .ok (.getfield 36, 3) := by decide +kernel
theorem dX1_deedHere_16 : decode cX1_deedHere 16 = .ok (.getstatic 85, 3) := by decide +kernel
theorem dX1_deedHere_19 : decode cX1_deedHere 19 = .ok (.if_acmp .ne 5, 3) := by decide +kernel
theorem dX1_deedHere_22 : decode cX1_deedHere 22 = .ok (.iconst 1, 1) := by decide +kernel
theorem dX1_deedHere_23 : decode cX1_deedHere 23 = .ok (.ireturn, 1) := by decide +kernel
theorem dX1_deedHere_24 : decode cX1_deedHere 24 = .ok (.aload_n 0, 1) := by decide +kernel
theorem dX1_deedHere_25 : decode cX1_deedHere 25 = .ok (.getfield 36, 3) := by decide +kernel
theorem dX1_deedHere_28 : decode cX1_deedHere 28 = .ok (.getstatic 88, 3) := by decide +kernel
theorem dX1_deedHere_31 : decode cX1_deedHere 31 = .ok (.if_acmp .ne 5, 3) := by decide +kernel
theorem dX1_deedHere_34 : decode cX1_deedHere 34 = .ok (.iconst 2, 1) := by decide +kernel
theorem dX1_deedHere_35 : decode cX1_deedHere 35 = .ok (.ireturn, 1) := by decide +kernel
theorem dX1_deedHere_36 : decode cX1_deedHere 36 = .ok (.aload_n 0, 1) := by decide +kernel
theorem dX1_deedHere_37 : decode cX1_deedHere 37 = .ok (.getfield 36, 3) := by decide +kernel
theorem dX1_deedHere_40 : decode cX1_deedHere 40 = .ok (.getstatic 91, 3) := by decide +kernel
theorem dX1_deedHere_43 : decode cX1_deedHere 43 = .ok (.if_acmp .ne 7, 3) := by decide +kernel
theorem dX1_deedHere_46 : decode cX1_deedHere 46 = .ok (.iconst 3, 1) := by decide +kernel
theorem dX1_deedHere_47 : decode cX1_deedHere 47 = .ok (.goto 4, 3) := by decide +kernel
theorem dX1_deedHere_50 : decode cX1_deedHere 50 = .ok (.iconst (-1), 1) := by decide +kernel
theorem dX1_deedHere_51 : decode cX1_deedHere 51 = .ok (.ireturn, 1) := by decide +kernel
theorem dX1_goesTo_0 : decode cX1_goesTo 0 = .ok (.aload_n 0, 1) := by decide +kernel
theorem dX1_goesTo_1 : decode cX1_goesTo 1 = .ok (.getfield 9, 3) := by decide +kernel
theorem dX1_goesTo_4 : decode cX1_goesTo 4 = .ok (.iload_n 1, 1) := by decide +kernel
theorem dX1_goesTo_5 : decode cX1_goesTo 5 = .ok (.iaload, 1) := by decide +kernel
theorem dX1_goesTo_6 : decode cX1_goesTo 6 = .ok (.ifCond .ne 12, 3) := by decide +kernel
theorem dX1_goesTo_9 : decode cX1_goesTo 9 = .ok (.aload_n 0, 1) := by decide +kernel
theorem dX1_goesTo_10 : decode cX1_goesTo 10 = .ok (.getfield 18, 3) := by decide +kernel
theorem dX1_goesTo_13 : decode cX1_goesTo 13 = .ok (.iload_n 1, 1) := by decide +kernel
theorem dX1_goesTo_14 : decode cX1_goesTo 14 = .ok (.iaload, 1) := by decide +kernel
theorem dX1_goesTo_15 : decode cX1_goesTo 15 = .ok (.goto 4, 3) := by decide +kernel
theorem dX1_goesTo_18 : decode cX1_goesTo 18 = .ok (.iconst (-1), 1) := by decide +kernel
theorem dX1_goesTo_19 : decode cX1_goesTo 19 = .ok (.ireturn, 1) := by decide +kernel
theorem dX1_perform_0 : decode cX1_perform 0 = .ok (.aload_n 0, 1) := by decide +kernel
theorem dX1_perform_1 : decode cX1_perform 1 = .ok (.getfield 15, 3) := by decide +kernel
theorem dX1_perform_4 : decode cX1_perform 4 = .ok (.iload_n 1, 1) := by decide +kernel
theorem dX1_perform_5 : decode cX1_perform 5 = .ok (.iaload, 1) := by decide +kernel
theorem dX1_perform_6 : decode cX1_perform 6 = .ok (.istore 4, 2) := by decide +kernel
theorem dX1_perform_8 : decode cX1_perform 8 = .ok (.aload_n 0, 1) := by decide +kernel
theorem dX1_perform_9 : decode cX1_perform 9 = .ok (.getfield 18, 3) := by decide +kernel
theorem dX1_perform_12 : decode cX1_perform 12 = .ok (.iload_n 1, 1) := by decide +kernel
theorem dX1_perform_13 : decode cX1_perform 13 = .ok (.iaload, 1) := by decide +kernel
theorem dX1_perform_14 : decode cX1_perform 14 = .ok (.istore 5, 2) := by decide +kernel
theorem dX1_perform_16 : decode cX1_perform 16 = .ok (.aload_n 0, 1) := by decide +kernel
theorem dX1_perform_17 : decode cX1_perform 17 = .ok (.getfield 9, 3) := by decide +kernel
theorem dX1_perform_20 : decode cX1_perform 20 = .ok (.iload_n 1, 1) := by decide +kernel
theorem dX1_perform_21 : decode cX1_perform 21 = .ok (.iaload, 1) := by decide +kernel
theorem dX1_perform_22 : decode cX1_perform 22 = .ok (.iconst 3, 1) := by decide +kernel
theorem dX1_perform_23 : decode cX1_perform 23 = .ok (.if_icmp .ne 11, 3) := by decide +kernel
theorem dX1_perform_26 : decode cX1_perform 26 = .ok (.aload_n 2, 1) := by decide +kernel
theorem dX1_perform_27 : decode cX1_perform 27 = .ok (.aload_n 3, 1) := by decide +kernel
theorem dX1_perform_28 : decode cX1_perform 28 = .ok (.invokevirtual 94, 3) := by decide +kernel
theorem dX1_perform_31 : decode cX1_perform 31 = .ok (.goto 79, 3) := by decide +kernel
theorem dX1_perform_34 : decode cX1_perform 34 = .ok (.aload_n 0, 1) := by decide +kernel
theorem dX1_perform_35 : decode cX1_perform 35 = .ok (.getfield 9, 3) := by decide +kernel
theorem dX1_perform_38 : decode cX1_perform 38 = .ok (.iload_n 1, 1) := by decide +kernel
theorem dX1_perform_39 : decode cX1_perform 39 = .ok (.iaload, 1) := by decide +kernel
theorem dX1_perform_40 : decode cX1_perform 40 = .ok (.iconst 2, 1) := by decide +kernel
theorem dX1_perform_41 : decode cX1_perform 41 = .ok (.if_icmp .ne 12, 3) := by decide +kernel
theorem dX1_perform_44 : decode cX1_perform 44 = .ok (.aload_n 3, 1) := by decide +kernel
theorem dX1_perform_45 : decode cX1_perform 45 = .ok (.iload 4, 2) := by decide +kernel
theorem dX1_perform_47 : decode cX1_perform 47 = .ok (.invokevirtual 100, 3) := by decide +kernel
theorem dX1_perform_50 : decode cX1_perform 50 = .ok (.goto 60, 3) := by decide +kernel
theorem dX1_perform_53 : decode cX1_perform 53 = .ok (.aload_n 0, 1) := by decide +kernel
theorem dX1_perform_54 : decode cX1_perform 54 = .ok (.getfield 9, 3) := by decide +kernel
theorem dX1_perform_57 : decode cX1_perform 57 = .ok (.iload_n 1, 1) := by decide +kernel
theorem dX1_perform_58 : decode cX1_perform 58 = .ok (.iaload, 1) := by decide +kernel
theorem dX1_perform_59 : decode cX1_perform 59 = .ok (.ifCond .ne 28, 3) := by decide +kernel
theorem dX1_perform_62 : decode cX1_perform 62 = .ok (.aload_n 2, 1) := by decide +kernel
theorem dX1_perform_63 : decode cX1_perform 63 = .ok (.aload_n 3, 1) := by decide +kernel
theorem dX1_perform_64 : decode cX1_perform 64 = .ok (.iload 4, 2) := by decide +kernel
theorem dX1_perform_66 : decode cX1_perform 66 = .ok (.iload 5, 2) := by decide +kernel
theorem dX1_perform_68 : decode cX1_perform 68 = .ok (.invokevirtual 106, 3) := by decide +kernel
theorem dX1_perform_71 : decode cX1_perform 71 = .ok (.ifCond .ne 5, 3) := by decide +kernel
theorem dX1_perform_74 : decode cX1_perform 74 = .ok (.iconst 0, 1) := by decide +kernel
theorem dX1_perform_75 : decode cX1_perform 75 = .ok (.ireturn, 1) := by decide +kernel
theorem dX1_perform_76 : decode cX1_perform 76 = .ok (.aload_n 3, 1) := by decide +kernel
theorem dX1_perform_77 : decode cX1_perform 77 = .ok (.iload 4, 2) := by decide +kernel
theorem dX1_perform_79 : decode cX1_perform 79 = .ok (.iload 5, 2) := by decide +kernel
theorem dX1_perform_81 : decode cX1_perform 81 = .ok (.invokevirtual 110, 3) := by decide +kernel
theorem dX1_perform_84 : decode cX1_perform 84 = .ok (.goto 26, 3) := by decide +kernel
theorem dX1_perform_87 : decode cX1_perform 87 = .ok (.aload_n 2, 1) := by decide +kernel
theorem dX1_perform_88 : decode cX1_perform 88 = .ok (.aload_n 3, 1) := by decide +kernel
theorem dX1_perform_89 : decode cX1_perform 89 = .ok (.iload 4, 2) := by decide +kernel
theorem dX1_perform_91 : decode cX1_perform 91 = .ok (.iload 5, 2) := by decide +kernel
theorem dX1_perform_93 : decode cX1_perform 93 = .ok (.invokevirtual 114, 3) := by decide +kernel
theorem dX1_perform_96 : decode cX1_perform 96 = .ok (.ifCond .ne 5, 3) := by decide +kernel
theorem dX1_perform_99 : decode cX1_perform 99 = .ok (.iconst 0, 1) := by decide +kernel
theorem dX1_perform_100 : decode cX1_perform 100 = .ok (.ireturn, 1) := by decide +kernel
theorem dX1_perform_101 : decode cX1_perform 101 = .ok (.aload_n 2, 1) := by decide +kernel
theorem dX1_perform_102 : decode cX1_perform 102 = .ok (.aload_n 3, 1) := by decide +kernel
theorem dX1_perform_103 : decode cX1_perform 103 = .ok (.iload 4, 2) := by decide +kernel
theorem dX1_perform_105 : decode cX1_perform 105 = .ok (.iload 5, 2) := by decide +kernel
theorem dX1_perform_107 : decode cX1_perform 107 = .ok (.invokevirtual 117, 3) := by decide +kernel
theorem dX1_perform_110 : decode cX1_perform 110 = .ok (.iconst 1, 1) := by decide +kernel
theorem dX1_perform_111 : decode cX1_perform 111 = .ok (.ireturn, 1) := by decide +kernel
theorem dX2_clear_0 : decode cX2_clear 0 = .ok (.aload_n 0, 1) := by decide +kernel
theorem dX2_clear_1 : decode cX2_clear 1 = .ok (.iconst 0, 1) := by decide +kernel
theorem dX2_clear_2 : decode cX2_clear 2 = .ok (.putfield 44, 3) := by decide +kernel
theorem dX2_clear_5 : decode cX2_clear 5 = .ok (.aload_n 0, 1) := by decide +kernel
theorem dX2_clear_6 : decode cX2_clear 6 = .ok (.iconst 0, 1) := by decide +kernel
theorem dX2_clear_7 : decode cX2_clear 7 = .ok (.putfield 48, 3) := by decide +kernel
theorem dX2_clear_10 : decode cX2_clear 10 = .ok (.aload_n 0, 1) := by decide +kernel
theorem dX2_clear_11 : decode cX2_clear 11 = .ok (.iconst 1, 1) := by decide +kernel
theorem dX2_clear_12 : decode cX2_clear 12 = .ok (.putfield 51, 3) := by decide +kernel
theorem dX2_clear_15 : decode cX2_clear 15 = .ok (.aload_n 0, 1) := by decide +kernel
theorem dX2_clear_16 : decode cX2_clear 16 = .ok (.iconst 2, 1) := by decide +kernel
theorem dX2_clear_17 : decode cX2_clear 17 = .ok (.putfield 54, 3) := by decide +kernel
theorem dX2_clear_20 : decode cX2_clear 20 = .ok (.aload_n 0, 1) := by decide +kernel
theorem dX2_clear_21 : decode cX2_clear 21 = .ok (.getfield 15, 3) := by decide +kernel
theorem dX2_clear_24 : decode cX2_clear 24 = .ok (.iconst 0, 1) := by decide +kernel
theorem dX2_clear_25 : decode cX2_clear 25 = .ok (.invokestatic 60, 3) := by decide +kernel
theorem dX2_clear_28 : decode cX2_clear 28 = .ok (.aload_n 0, 1) := by decide +kernel
theorem dX2_clear_29 : decode cX2_clear 29 = .ok (.getfield 40, 3) := by decide +kernel
theorem dX2_clear_32 : decode cX2_clear 32 = .ok (.invokevirtual 57, 3) := by decide +kernel
theorem dX2_clear_35 : decode cX2_clear 35 = .ok (.return_, 1) := by decide +kernel
theorem dX2_copy_0 : decode cX2_copy 0 = .ok (.aload_n 0, 1) := by decide +kernel
theorem dX2_copy_1 : decode cX2_copy 1 = .ok (.aload_n 1, 1) := by decide +kernel
theorem dX2_copy_2 : decode cX2_copy 2 = .ok (.getfield 44, 3) := by decide +kernel
theorem dX2_copy_5 : decode cX2_copy 5 = .ok (.putfield 44, 3) := by decide +kernel
theorem dX2_copy_8 : decode cX2_copy 8 = .ok (.aload_n 0, 1) := by decide +kernel
theorem dX2_copy_9 : decode cX2_copy 9 = .ok (.aload_n 1, 1) := by decide +kernel
theorem dX2_copy_10 : decode cX2_copy 10 = .ok (.getfield 48, 3) := by decide +kernel
theorem dX2_copy_13 : decode cX2_copy 13 = .ok (.putfield 48, 3) := by decide +kernel
theorem dX2_copy_16 : decode cX2_copy 16 = .ok (.aload_n 0, 1) := by decide +kernel
theorem dX2_copy_17 : decode cX2_copy 17 = .ok (.aload_n 1, 1) := by decide +kernel
theorem dX2_copy_18 : decode cX2_copy 18 = .ok (.getfield 51, 3) := by decide +kernel
theorem dX2_copy_21 : decode cX2_copy 21 = .ok (.putfield 51, 3) := by decide +kernel
theorem dX2_copy_24 : decode cX2_copy 24 = .ok (.aload_n 0, 1) := by decide +kernel
theorem dX2_copy_25 : decode cX2_copy 25 = .ok (.aload_n 1, 1) := by decide +kernel
theorem dX2_copy_26 : decode cX2_copy 26 = .ok (.getfield 54, 3) := by decide +kernel
theorem dX2_copy_29 : decode cX2_copy 29 = .ok (.putfield 54, 3) := by decide +kernel
theorem dX2_copy_32 : decode cX2_copy 32 = .ok (.aload_n 1, 1) := by decide +kernel
theorem dX2_copy_33 : decode cX2_copy 33 = .ok (.getfield 9, 3) := by decide +kernel
theorem dX2_copy_36 : decode cX2_copy 36 = .ok (.iconst 0, 1) := by decide +kernel
theorem dX2_copy_37 : decode cX2_copy 37 = .ok (.aload_n 0, 1) := by decide +kernel
theorem dX2_copy_38 : decode cX2_copy 38 = .ok (.getfield 9, 3) := by decide +kernel
theorem dX2_copy_41 : decode cX2_copy 41 = .ok (.iconst 0, 1) := by decide +kernel
theorem dX2_copy_42 : decode cX2_copy 42 = .ok (.bipush 6, 2) := by decide +kernel
theorem dX2_copy_44 : decode cX2_copy 44 = .ok (.invokestatic 66, 3) := by decide +kernel
theorem dX2_copy_47 : decode cX2_copy 47 = .ok (.aload_n 1, 1) := by decide +kernel
theorem dX2_copy_48 : decode cX2_copy 48 = .ok (.getfield 15, 3) := by decide +kernel
theorem dX2_copy_51 : decode cX2_copy 51 = .ok (.iconst 0, 1) := by decide +kernel
theorem dX2_copy_52 : decode cX2_copy 52 = .ok (.aload_n 0, 1) := by decide +kernel
theorem dX2_copy_53 : decode cX2_copy 53 = .ok (.getfield 15, 3) := by decide +kernel
theorem dX2_copy_56 : decode cX2_copy 56 = .ok (.iconst 0, 1) := by decide +kernel
theorem dX2_copy_57 : decode cX2_copy 57 = .ok (.bipush 6, 2) := by decide +kernel
theorem dX2_copy_59 : decode cX2_copy 59 = .ok (.invokestatic 66, 3) := by decide +kernel
theorem dX2_copy_62 : decode cX2_copy 62 = .ok (.aload_n 1, 1) := by decide +kernel
theorem dX2_copy_63 : decode cX2_copy 63 = .ok (.getfield 18, 3) := by decide +kernel
theorem dX2_copy_66 : decode cX2_copy 66 = .ok (.iconst 0, 1) := by decide +kernel
theorem dX2_copy_67 : decode cX2_copy 67 = .ok (.aload_n 0, 1) := by decide +kernel
theorem dX2_copy_68 : decode cX2_copy 68 = .ok (.getfield 18, 3) := by decide +kernel
theorem dX2_copy_71 : decode cX2_copy 71 = .ok (.iconst 0, 1) := by decide +kernel
theorem dX2_copy_72 : decode cX2_copy 72 = .ok (.bipush 6, 2) := by decide +kernel
theorem dX2_copy_74 : decode cX2_copy 74 = .ok (.invokestatic 66, 3) := by decide +kernel
theorem dX2_copy_77 : decode cX2_copy 77 = .ok (.aload_n 1, 1) := by decide +kernel
theorem dX2_copy_78 : decode cX2_copy 78 = .ok (.getfield 22, 3) := by decide +kernel
theorem dX2_copy_81 : decode cX2_copy 81 = .ok (.iconst 0, 1) := by decide +kernel
theorem dX2_copy_82 : decode cX2_copy 82 = .ok (.aload_n 0, 1) := by decide +kernel
theorem dX2_copy_83 : decode cX2_copy 83 = .ok (.getfield 22, 3) := by decide +kernel
theorem dX2_copy_86 : decode cX2_copy 86 = .ok (.iconst 0, 1) := by decide +kernel
theorem dX2_copy_87 : decode cX2_copy 87 = .ok (.bipush 6, 2) := by decide +kernel
theorem dX2_copy_89 : decode cX2_copy 89 = .ok (.invokestatic 66, 3) := by decide +kernel
theorem dX2_copy_92 : decode cX2_copy 92 = .ok (.aload_n 1, 1) := by decide +kernel
theorem dX2_copy_93 : decode cX2_copy 93 = .ok (.getfield 25, 3) := by decide +kernel
theorem dX2_copy_96 : decode cX2_copy 96 = .ok (.iconst 0, 1) := by decide +kernel
theorem dX2_copy_97 : decode cX2_copy 97 = .ok (.aload_n 0, 1) := by decide +kernel
theorem dX2_copy_98 : decode cX2_copy 98 = .ok (.getfield 25, 3) := by decide +kernel
theorem dX2_copy_101 : decode cX2_copy 101 = .ok (.iconst 0, 1) := by decide +kernel
theorem dX2_copy_102 : decode cX2_copy 102 = .ok (.bipush 6, 2) := by decide +kernel
theorem dX2_copy_104 : decode cX2_copy 104 = .ok (.invokestatic 66, 3) := by decide +kernel
theorem dX2_copy_107 : decode cX2_copy 107 = .ok (.aload_n 1, 1) := by decide +kernel
theorem dX2_copy_108 : decode cX2_copy 108 = .ok (.getfield 28, 3) := by decide +kernel
theorem dX2_copy_111 : decode cX2_copy 111 = .ok (.iconst 0, 1) := by decide +kernel
theorem dX2_copy_112 : decode cX2_copy 112 = .ok (.aload_n 0, 1) := by decide +kernel
theorem dX2_copy_113 : decode cX2_copy 113 = .ok (.getfield 28, 3) := by decide +kernel
theorem dX2_copy_116 : decode cX2_copy 116 = .ok (.iconst 0, 1) := by decide +kernel
theorem dX2_copy_117 : decode cX2_copy 117 = .ok (.bipush 6, 2) := by decide +kernel
theorem dX2_copy_119 : decode cX2_copy 119 = .ok (.invokestatic 66, 3) := by decide +kernel
theorem dX2_copy_122 : decode cX2_copy 122 = .ok (.aload_n 1, 1) := by decide +kernel
theorem dX2_copy_123 : decode cX2_copy 123 = .ok (.getfield 31, 3) := by decide +kernel
theorem dX2_copy_126 : decode cX2_copy 126 = .ok (.iconst 0, 1) := by decide +kernel
theorem dX2_copy_127 : decode cX2_copy 127 = .ok (.aload_n 0, 1) := by decide +kernel
theorem dX2_copy_128 : decode cX2_copy 128 = .ok (.getfield 31, 3) := by decide +kernel
theorem dX2_copy_131 : decode cX2_copy 131 = .ok (.iconst 0, 1) := by decide +kernel
theorem dX2_copy_132 : decode cX2_copy 132 = .ok (.bipush 6, 2) := by decide +kernel
theorem dX2_copy_134 : decode cX2_copy 134 = .ok (.invokestatic 66, 3) := by decide +kernel
theorem dX2_copy_137 : decode cX2_copy 137 = .ok (.aload_n 1, 1) := by decide +kernel
theorem dX2_copy_138 : decode cX2_copy 138 = .ok (.getfield 34, 3) := by decide +kernel
theorem dX2_copy_141 : decode cX2_copy 141 = .ok (.iconst 0, 1) := by decide +kernel
theorem dX2_copy_142 : decode cX2_copy 142 = .ok (.aload_n 0, 1) := by decide +kernel
theorem dX2_copy_143 : decode cX2_copy 143 = .ok (.getfield 34, 3) := by decide +kernel
theorem dX2_copy_146 : decode cX2_copy 146 = .ok (.iconst 0, 1) := by decide +kernel
theorem dX2_copy_147 : decode cX2_copy 147 = .ok (.bipush 6, 2) := by decide +kernel
theorem dX2_copy_149 : decode cX2_copy 149 = .ok (.invokestatic 66, 3) := by decide +kernel
theorem dX2_copy_152 : decode cX2_copy 152 = .ok (.aload_n 0, 1) := by decide +kernel
theorem dX2_copy_153 : decode cX2_copy 153 = .ok (.getfield 40, 3) := by decide +kernel
theorem dX2_copy_156 : decode cX2_copy 156 = .ok (.aload_n 1, 1) := by decide +kernel
theorem dX2_copy_157 : decode cX2_copy 157 = .ok (.getfield 40, 3) := by decide +kernel
theorem dX2_copy_160 : decode cX2_copy 160 = .ok (.invokevirtual 72, 3) := by decide +kernel
theorem dX2_copy_163 : decode cX2_copy 163 = .ok (.return_, 1) := by decide +kernel
theorem dX2_townNamed_0 : decode cX2_townNamed 0 = .ok (.iconst 0, 1) := by decide +kernel
theorem dX2_townNamed_1 : decode cX2_townNamed 1 = .ok (.istore_n 3, 1) := by decide +kernel
theorem dX2_townNamed_2 : decode cX2_townNamed 2 = .ok (.iload_n 3, 1) := by decide +kernel
theorem dX2_townNamed_3 : decode cX2_townNamed 3 = .ok (.aload_n 0, 1) := by decide +kernel
theorem dX2_townNamed_4 : decode cX2_townNamed 4 = .ok (.getfield 44, 3) := by decide +kernel
theorem dX2_townNamed_7 : decode cX2_townNamed 7 = .ok (.if_icmp .ge 22, 3) := by decide +kernel
theorem dX2_townNamed_10 : decode cX2_townNamed 10 = .ok (.aload_n 0, 1) := by decide +kernel
theorem dX2_townNamed_11 : decode cX2_townNamed 11 = .ok (.getfield 18, 3) := by decide +kernel
theorem dX2_townNamed_14 : decode cX2_townNamed 14 = .ok (.iload_n 3, 1) := by decide +kernel
theorem dX2_townNamed_15 : decode cX2_townNamed 15 = .ok (.laload, 1) := by decide +kernel
theorem dX2_townNamed_16 : decode cX2_townNamed 16 = .ok (.lload_n 1, 1) := by decide +kernel
theorem dX2_townNamed_17 : decode cX2_townNamed 17 = .ok (.lcmp, 1) := by decide +kernel
theorem dX2_townNamed_18 : decode cX2_townNamed 18 = .ok (.ifCond .ne 5, 3) := by decide +kernel
theorem dX2_townNamed_21 : decode cX2_townNamed 21 = .ok (.iload_n 3, 1) := by decide +kernel
theorem dX2_townNamed_22 : decode cX2_townNamed 22 = .ok (.ireturn, 1) := by decide +kernel
theorem dX2_townNamed_23 : decode cX2_townNamed 23 = .ok (.iinc 3 1, 3) := by decide +kernel
theorem dX2_townNamed_26 : decode cX2_townNamed 26 = .ok (.goto (-24), 3) := by decide +kernel
theorem dX2_townNamed_29 : decode cX2_townNamed 29 = .ok (.iconst (-1), 1) := by decide +kernel
theorem dX2_townNamed_30 : decode cX2_townNamed 30 = .ok (.ireturn, 1) := by decide +kernel
theorem dX2_personNamed_0 : decode cX2_personNamed 0 = .ok (.iconst 0, 1) := by decide +kernel
theorem dX2_personNamed_1 : decode cX2_personNamed 1 = .ok (.istore_n 3, 1) := by decide +kernel
theorem dX2_personNamed_2 : decode cX2_personNamed 2 = .ok (.iload_n 3, 1) := by decide +kernel
theorem dX2_personNamed_3 : decode cX2_personNamed 3 = .ok (.aload_n 0, 1) := by decide +kernel
theorem dX2_personNamed_4 : decode cX2_personNamed 4 = .ok (.getfield 48, 3) := by decide +kernel
theorem dX2_personNamed_7 : decode cX2_personNamed 7 = .ok (.if_icmp .ge 22, 3) := by decide +kernel
theorem dX2_personNamed_10 : decode cX2_personNamed 10 = .ok (.aload_n 0, 1) := by decide +kernel
theorem dX2_personNamed_11 : decode cX2_personNamed 11 = .ok (.getfield 34, 3) := by decide +kernel
theorem dX2_personNamed_14 : decode cX2_personNamed 14 = .ok (.iload_n 3, 1) := by decide +kernel
theorem dX2_personNamed_15 : decode cX2_personNamed 15 = .ok (.laload, 1) := by decide +kernel
theorem dX2_personNamed_16 : decode cX2_personNamed 16 = .ok (.lload_n 1, 1) := by decide +kernel
theorem dX2_personNamed_17 : decode cX2_personNamed 17 = .ok (.lcmp, 1) := by decide +kernel
theorem dX2_personNamed_18 : decode cX2_personNamed 18 = .ok (.ifCond .ne 5, 3) := by decide +kernel
theorem dX2_personNamed_21 : decode cX2_personNamed 21 = .ok (.iload_n 3, 1) := by decide +kernel
theorem dX2_personNamed_22 : decode cX2_personNamed 22 = .ok (.ireturn, 1) := by decide +kernel
theorem dX2_personNamed_23 : decode cX2_personNamed 23 = .ok (.iinc 3 1, 3) := by decide +kernel
theorem dX2_personNamed_26 : decode cX2_personNamed 26 = .ok (.goto (-24), 3) := by decide +kernel
theorem dX2_personNamed_29 : decode cX2_personNamed 29 = .ok (.iconst (-1), 1) := by decide +kernel
theorem dX2_personNamed_30 : decode cX2_personNamed 30 = .ok (.ireturn, 1) := by decide +kernel
theorem dX2_allTowns_0 : decode cX2_allTowns 0 = .ok (.iconst 1, 1) := by decide +kernel
theorem dX2_allTowns_1 : decode cX2_allTowns 1 = .ok (.aload_n 0, 1) := by decide +kernel
theorem dX2_allTowns_2 : decode cX2_allTowns 2 = .ok (.getfield 44, 3) := by decide +kernel
theorem dX2_allTowns_5 : decode cX2_allTowns 5 = .ok (.ishl, 1) := by decide +kernel
theorem dX2_allTowns_6 : decode cX2_allTowns 6 = .ok (.iconst 1, 1) := by decide +kernel
theorem dX2_allTowns_7 : decode cX2_allTowns 7 = .ok (.isub, 1) := by decide +kernel
theorem dX2_allTowns_8 : decode cX2_allTowns 8 = .ok (.ireturn, 1) := by decide +kernel
theorem dX2_mostAsked_0 : decode cX2_mostAsked 0 = .ok (.iconst 0, 1) := by decide +kernel
theorem dX2_mostAsked_1 : decode cX2_mostAsked 1 = .ok (.istore_n 1, 1) := by decide +kernel
theorem dX2_mostAsked_2 : decode cX2_mostAsked 2 = .ok (.iconst 0, 1) := by decide +kernel
theorem dX2_mostAsked_3 : decode cX2_mostAsked 3 = .ok (.istore_n 2, 1) := by decide +kernel
theorem dX2_mostAsked_4 : decode cX2_mostAsked 4 = .ok (.iload_n 2, 1) := by decide +kernel
theorem dX2_mostAsked_5 : decode cX2_mostAsked 5 = .ok (.aload_n 0, 1) := by decide +kernel
theorem dX2_mostAsked_6 : decode cX2_mostAsked 6 = .ok (.getfield 44, 3) := by decide +kernel
theorem dX2_mostAsked_9 : decode cX2_mostAsked 9 = .ok (.if_icmp .ge 20, 3) := by decide +kernel
theorem dX2_mostAsked_12 : decode cX2_mostAsked 12 = .ok (.iload_n 1, 1) := by decide +kernel
theorem dX2_mostAsked_13 : decode cX2_mostAsked 13 = .ok (.aload_n 0, 1) := by decide +kernel
theorem dX2_mostAsked_14 : decode cX2_mostAsked 14 = .ok (.getfield 9, 3) := by decide +kernel
theorem dX2_mostAsked_17 : decode cX2_mostAsked 17 = .ok (.iload_n 2, 1) := by decide +kernel
theorem dX2_mostAsked_18 : decode cX2_mostAsked 18 = .ok (.iaload, 1) := by decide +kernel
theorem dX2_mostAsked_19 : decode cX2_mostAsked 19 = .ok (.invokestatic 76, 3) := by decide +kernel
theorem dX2_mostAsked_22 : decode cX2_mostAsked 22 = .ok (.istore_n 1, 1) := by decide +kernel
theorem dX2_mostAsked_23 : decode cX2_mostAsked 23 = .ok (.iinc 2 1, 3) := by decide +kernel
theorem dX2_mostAsked_26 : decode cX2_mostAsked 26 = .ok (.goto (-22), 3) := by decide +kernel
theorem dX2_mostAsked_29 : decode cX2_mostAsked 29 = .ok (.iload_n 1, 1) := by decide +kernel
theorem dX2_mostAsked_30 : decode cX2_mostAsked 30 = .ok (.ireturn, 1) := by decide +kernel
theorem dX2_unreadLet_0 : decode cX2_unreadLet 0 = .ok (.iconst 0, 1) := by decide +kernel
theorem dX2_unreadLet_1 : decode cX2_unreadLet 1 = .ok (.istore_n 3, 1) := by decide +kernel
theorem dX2_unreadLet_2 : decode cX2_unreadLet 2 = .ok (.iconst 0, 1) := by decide +kernel
theorem dX2_unreadLet_3 : decode cX2_unreadLet 3 = .ok (.istore 4, 2) := by decide +kernel
theorem dX2_unreadLet_5 : decode cX2_unreadLet 5 = .ok (.iload 4, 2) := by decide +kernel
theorem dX2_unreadLet_7 : decode cX2_unreadLet 7 = .ok (.bipush 30, 2) := by decide +kernel
theorem dX2_unreadLet_9 : decode cX2_unreadLet 9 = .ok (.if_icmp .gt 36, 3) := by decide +kernel
theorem dX2_unreadLet_12 : decode cX2_unreadLet 12 = .ok (.aload_n 0, 1) := by decide +kernel
theorem dX2_unreadLet_13 : decode cX2_unreadLet 13 = .ok (.getfield 40, 3) := by decide +kernel
theorem dX2_unreadLet_16 : decode cX2_unreadLet 16 = .ok (.iload 4, 2) := by decide +kernel
theorem dX2_unreadLet_18 : decode cX2_unreadLet 18 = .ok (.iconst 0, 1) := by decide +kernel
theorem dX2_unreadLet_19 : decode cX2_unreadLet 19 = .ok (.aload_n 0, 1) := by decide +kernel
theorem dX2_unreadLet_20 : decode cX2_unreadLet 20 = .ok (.getfield 9, 3) := by decide +kernel
theorem dX2_unreadLet_23 : decode cX2_unreadLet 23 = .ok (.iload_n 1, 1) := by decide +kernel
theorem dX2_unreadLet_24 : decode cX2_unreadLet 24 = .ok (.iaload, 1) := by decide +kernel
theorem dX2_unreadLet_25 : decode cX2_unreadLet 25 = .ok (.iload_n 2, 1) := by decide +kernel
theorem dX2_unreadLet_26 : decode cX2_unreadLet 26 = .ok (.invokevirtual 82, 3) := by decide +kernel
theorem dX2_unreadLet_29 : decode cX2_unreadLet 29 = .ok (.ifCond .eq 10, 3) := by decide +kernel
theorem dX2_unreadLet_32 : decode cX2_unreadLet 32 = .ok (.iload_n 3, 1) := by decide +kernel
theorem dX2_unreadLet_33 : decode cX2_unreadLet 33 = .ok (.iconst 1, 1) := by decide +kernel
theorem dX2_unreadLet_34 : decode cX2_unreadLet 34 = .ok (.iload 4, 2) := by decide +kernel
theorem dX2_unreadLet_36 : decode cX2_unreadLet 36 = .ok (.ishl, 1) := by decide +kernel
theorem dX2_unreadLet_37 : decode cX2_unreadLet 37 = .ok (.ior, 1) := by decide +kernel
theorem dX2_unreadLet_38 : decode cX2_unreadLet 38 = .ok (.istore_n 3, 1) := by decide +kernel
theorem dX2_unreadLet_39 : decode cX2_unreadLet 39 = .ok (.iinc 4 1, 3) := by decide +kernel
theorem dX2_unreadLet_42 : decode cX2_unreadLet 42 = .ok (.goto (-37), 3) := by decide +kernel
theorem dX2_unreadLet_45 : decode cX2_unreadLet 45 = .ok (.iload_n 3, 1) := by decide +kernel
theorem dX2_unreadLet_46 : decode cX2_unreadLet 46 = .ok (.ireturn, 1) := by decide +kernel
theorem dX3_read_0 : decode cX3_read 0 = .ok (.aload_n 2, 1) := by decide +kernel
theorem dX3_read_1 : decode cX3_read 1 = .ok (.invokevirtual 21, 3) := by decide +kernel
theorem dX3_read_4 : decode cX3_read 4 = .ok (.aload_n 0, 1) := by decide +kernel
theorem dX3_read_5 : decode cX3_read 5 = .ok (.iconst 0, 1) := by decide +kernel
theorem dX3_read_6 : decode cX3_read 6 = .ok (.putfield 9, 3) := by decide +kernel
theorem dX3_read_9 : decode cX3_read 9 = .ok (.aload_n 0, 1) := by decide +kernel
theorem dX3_read_10 : decode cX3_read 10 = .ok (.iconst 0, 1) := by decide +kernel
theorem dX3_read_11 : decode cX3_read 11 = .ok (.putfield 15, 3) := by decide +kernel
theorem dX3_read_14 : decode cX3_read 14 = .ok (.aload_n 0, 1) := by decide +kernel
theorem dX3_read_15 : decode cX3_read 15 = .ok (.iconst 0, 1) := by decide +kernel
theorem dX3_read_16 : decode cX3_read 16 = .ok (.putfield 18, 3) := by decide +kernel
theorem dX3_read_19 : decode cX3_read 19 = .ok (.aload_n 1, 1) := by decide +kernel
theorem dX3_read_20 : decode cX3_read 20 = .ok (.invokevirtual 26, 3) := by decide +kernel
theorem dX3_read_23 : decode cX3_read 23 = .ok (.iconst 0, 1) := by decide +kernel
theorem dX3_read_24 : decode cX3_read 24 = .ok (.istore_n 3, 1) := by decide +kernel
theorem dX3_read_25 : decode cX3_read 25 = .ok (.iload_n 3, 1) := by decide +kernel
theorem dX3_read_26 : decode cX3_read 26 = .ok (.sipush 1000, 3) := by decide +kernel
theorem dX3_read_29 : decode cX3_read 29 = .ok (.if_icmp .ge 40, 3) := by decide +kernel
theorem dX3_read_32 : decode cX3_read 32 = .ok (.aload_n 1, 1) := by decide +kernel
theorem dX3_read_33 : decode cX3_read 33 = .ok (.getfield 31, 3) := by decide +kernel
theorem dX3_read_36 : decode cX3_read 36 = .ok (.getstatic 35, 3) := by decide +kernel
theorem dX3_read_39 : decode cX3_read 39 = .ok (.if_acmp .eq 30, 3) := by decide +kernel
theorem dX3_read_42 : decode cX3_read 42 = .ok (.aload_n 0, 1) := by decide +kernel
theorem dX3_read_43 : decode cX3_read 43 = .ok (.aload_n 1, 1) := by decide +kernel
theorem dX3_read_44 : decode cX3_read 44 = .ok (.aload_n 2, 1) := by decide +kernel
theorem dX3_read_45 : decode cX3_read 45 = .ok (.invokevirtual 40, 3) := by decide +kernel
theorem dX3_read_48 : decode cX3_read 48 = .ok (.ifCond .eq 13, 3) := by decide +kernel
theorem dX3_read_51 : decode cX3_read 51 = .ok (.aload_n 1, 1) := by decide +kernel
theorem dX3_read_52 : decode cX3_read 52 = .ok (.getstatic 44, 3) := by decide +kernel
theorem dX3_read_55 : decode cX3_read 55 = .ok (.invokevirtual 47, 3) := by decide +kernel
theorem dX3_read_58 : decode cX3_read 58 = .ok (.ifCond .ne 5, 3) := by decide +kernel
theorem dX3_read_61 : decode cX3_read 61 = .ok (.iconst 0, 1) := by decide +kernel
theorem dX3_read_62 : decode cX3_read 62 = .ok (.ireturn, 1) := by decide +kernel
theorem dX3_read_63 : decode cX3_read 63 = .ok (.iinc 3 1, 3) := by decide +kernel
theorem dX3_read_66 : decode cX3_read 66 = .ok (.goto (-41), 3) := by decide +kernel
theorem dX3_read_69 : decode cX3_read 69 = .ok (.iconst 1, 1) := by decide +kernel
theorem dX3_read_70 : decode cX3_read 70 = .ok (.ireturn, 1) := by decide +kernel
theorem dX3_readLine_0 : decode cX3_readLine 0 = .ok (.aload_n 1, 1) := by decide +kernel
theorem dX3_readLine_1 : decode cX3_readLine 1 = .ok (.getfield 31, 3) := by decide +kernel
theorem dX3_readLine_4 : decode cX3_readLine 4 = .ok (.getstatic 51, 3) := by decide +kernel
theorem dX3_readLine_7 : decode cX3_readLine 7 = .ok (.if_acmp .ne 10, 3) := by decide +kernel
theorem dX3_readLine_10 : decode cX3_readLine 10 = .ok (.aload_n 0, 1) := by decide +kernel
theorem dX3_readLine_11 : decode cX3_readLine 11 = .ok (.aload_n 1, 1) := by decide +kernel
theorem dX3_readLine_12 : decode cX3_readLine 12 = .ok (.aload_n 2, 1) := by decide +kernel
theorem dX3_readLine_13 : decode cX3_readLine 13 = .ok (.invokevirtual 54, 3) := by decide +kernel
theorem dX3_readLine_16 : decode cX3_readLine 16 = .ok (.ireturn, 1) := by decide +kernel
theorem dX3_readLine_17 : decode cX3_readLine 17 = .ok (.aload_n 1, 1) := by decide +kernel
theorem dX3_readLine_18 : decode cX3_readLine 18 = .ok (.getfield 31, 3) := by decide +kernel
theorem dX3_readLine_21 : decode cX3_readLine 21 = .ok (.getstatic 57, 3) := by decide +kernel
theorem dX3_readLine_24 : decode cX3_readLine 24 = .ok (.if_acmp .ne 10, 3) := by decide +kernel
theorem dX3_readLine_27 : decode cX3_readLine 27 = .ok (.aload_n 0, 1) := by decide +kernel
theorem dX3_readLine_28 : decode cX3_readLine 28 = .ok (.aload_n 1, 1) := by decide +kernel
theorem dX3_readLine_29 : decode cX3_readLine 29 = .ok (.aload_n 2, 1) := by decide +kernel
theorem dX3_readLine_30 : decode cX3_readLine 30 = .ok (.invokevirtual 60, 3) := by decide +kernel
theorem dX3_readLine_33 : decode cX3_readLine 33 = .ok (.ireturn, 1) := by decide +kernel
theorem dX3_readLine_34 : decode cX3_readLine 34 = .ok (.aload_n 1, 1) := by decide +kernel
theorem dX3_readLine_35 : decode cX3_readLine 35 = .ok (.getfield 31, 3) := by decide +kernel
theorem dX3_readLine_38 : decode cX3_readLine 38 = .ok (.getstatic 63, 3) := by decide +kernel
theorem dX3_readLine_41 : decode cX3_readLine 41 = .ok (.if_acmp .ne 33, 3) := by decide +kernel
theorem dX3_readLine_44 : decode cX3_readLine 44 = .ok (.aload_n 0, 1) := by decide +kernel
theorem dX3_readLine_45 : decode cX3_readLine 45 = .ok (.aload_n 1, 1) := by decide +kernel
theorem dX3_readLine_46 : decode cX3_readLine 46 = .ok (.aload_n 2, 1) := by decide +kernel
theorem dX3_readLine_47 : decode cX3_readLine 47 = .ok (.invokevirtual 66, 3) := by decide +kernel
theorem dX3_readLine_50 : decode cX3_readLine 50 = .ok (.ifCond .eq 22, 3) := by decide +kernel
theorem dX3_readLine_53 : decode cX3_readLine 53 = .ok (.aload_n 0, 1) := by decide +kernel
theorem dX3_readLine_54 : decode cX3_readLine 54 = .ok (.aload_n 1, 1) := by decide +kernel
theorem dX3_readLine_55 : decode cX3_readLine 55 = .ok (.aload_n 2, 1) := by decide +kernel
theorem dX3_readLine_56 : decode cX3_readLine 56 = .ok (.aload_n 2, 1) := by decide +kernel
theorem dX3_readLine_57 : decode cX3_readLine 57 = .ok (.getfield 69, 3) := by decide +kernel
theorem dX3_readLine_60 : decode cX3_readLine 60 = .ok (.iconst 1, 1) := by decide +kernel
theorem dX3_readLine_61 : decode cX3_readLine 61 = .ok (.isub, 1) := by decide +kernel
theorem dX3_readLine_62 : decode cX3_readLine 62 = .ok (.invokevirtual 73, 3) := by decide +kernel
theorem dX3_readLine_65 : decode cX3_readLine 65 = .ok (.ifCond .eq 7, 3) := by decide +kernel
theorem dX3_readLine_68 : decode cX3_readLine 68 = .ok (.iconst 1, 1) := by decide +kernel
theorem dX3_readLine_69 : decode cX3_readLine 69 = .ok (.goto 4, 3) := by decide +kernel
theorem dX3_readLine_72 : decode cX3_readLine 72 = .ok (.iconst 0, 1) := by decide +kernel
theorem dX3_readLine_73 : decode cX3_readLine 73 = .ok (.ireturn, 1) := by decide +kernel
theorem dX3_readLine_74 : decode cX3_readLine 74 = .ok (.aload_n 1, 1) := by decide +kernel
theorem dX3_readLine_75 : decode cX3_readLine 75 = .ok (.getfield 31, 3) := by decide +kernel
theorem dX3_readLine_78 : decode cX3_readLine 78 = .ok (.getstatic 77, 3) := by decide +kernel
theorem dX3_readLine_81 : decode cX3_readLine 81 = .ok (.if_acmp .ne 10, 3) := by decide +kernel
theorem dX3_readLine_84 : decode cX3_readLine 84 = .ok (.aload_n 0, 1) := by decide +kernel
theorem dX3_readLine_85 : decode cX3_readLine 85 = .ok (.aload_n 1, 1) := by decide +kernel
theorem dX3_readLine_86 : decode cX3_readLine 86 = .ok (.aload_n 2, 1) := by decide +kernel
theorem dX3_readLine_87 : decode cX3_readLine 87 = .ok (.invokevirtual 80, 3) := by decide +kernel
theorem dX3_readLine_90 : decode cX3_readLine 90 = .ok (.ireturn, 1) := by decide +kernel
theorem dX3_readLine_91 : decode cX3_readLine 91 = .ok (.aload_n 1, 1) := by decide +kernel
theorem dX3_readLine_92 : decode cX3_readLine 92 = .ok (.getfield 31, 3) := by decide +kernel
theorem dX3_readLine_95 : decode cX3_readLine 95 = .ok (.getstatic 83, 3) := by decide +kernel
theorem dX3_readLine_98 : decode cX3_readLine 98 = .ok (.if_acmp .ne 10, 3) := by decide +kernel
theorem dX3_readLine_101 : decode cX3_readLine 101 = .ok (.aload_n 0, 1) := by decide +kernel
theorem dX3_readLine_102 : decode cX3_readLine 102 = .ok (.aload_n 1, 1) := by decide +kernel
theorem dX3_readLine_103 : decode cX3_readLine 103 = .ok (.aload_n 2, 1) := by decide +kernel
theorem dX3_readLine_104 : decode cX3_readLine 104 = .ok (.invokevirtual 86, 3) := by decide +kernel
theorem dX3_readLine_107 : decode cX3_readLine 107 = .ok (.ireturn, 1) := by decide +kernel
theorem dX3_readLine_108 : decode cX3_readLine 108 = .ok (.aload_n 1, 1) := by decide +kernel
theorem dX3_readLine_109 : decode cX3_readLine 109 = .ok (.getfield 31, 3) := by decide +kernel
theorem dX3_readLine_112 : decode cX3_readLine 112 = .ok (.getstatic 89, 3) := by decide +kernel
theorem dX3_readLine_115 : decode cX3_readLine 115 = .ok (.if_acmp .ne 30, 3) := by decide +kernel
theorem dX3_readLine_118 : decode cX3_readLine 118 = .ok (.aload_n 0, 1) := by decide +kernel
theorem dX3_readLine_119 : decode cX3_readLine 119 = .ok (.aload_n 1, 1) := by decide +kernel
theorem dX3_readLine_120 : decode cX3_readLine 120 = .ok (.aload_n 2, 1) := by decide +kernel
theorem dX3_readLine_121 : decode cX3_readLine 121 = .ok (.invokevirtual 92, 3) := by decide +kernel
theorem dX3_readLine_124 : decode cX3_readLine 124 = .ok (.ifCond .eq 19, 3) := by decide +kernel
theorem dX3_readLine_127 : decode cX3_readLine 127 = .ok (.aload_n 2, 1) := by decide +kernel
theorem dX3_readLine_128 : decode cX3_readLine 128 = .ok (.getfield 95, 3) := by decide +kernel
theorem dX3_readLine_131 : decode cX3_readLine 131 = .ok (.aload_n 1, 1) := by decide +kernel
theorem dX3_readLine_132 : decode cX3_readLine 132 = .ok (.iconst 0, 1) := by decide +kernel
theorem dX3_readLine_133 : decode cX3_readLine 133 = .ok (.invokevirtual 99, 3) := by decide +kernel
theorem dX3_readLine_136 : decode cX3_readLine 136 = .ok (.ifCond .eq 7, 3) := by decide +kernel
theorem dX3_readLine_139 : decode cX3_readLine 139 = .ok (.iconst 1, 1) := by decide +kernel
theorem dX3_readLine_140 : decode cX3_readLine 140 = .ok (.goto 4, 3) := by decide +kernel
theorem dX3_readLine_143 : decode cX3_readLine 143 = .ok (.iconst 0, 1) := by decide +kernel
theorem dX3_readLine_144 : decode cX3_readLine 144 = .ok (.ireturn, 1) := by decide +kernel
theorem dX3_readLine_145 : decode cX3_readLine 145 = .ok (.aload_n 1, 1) := by decide +kernel
theorem dX3_readLine_146 : decode cX3_readLine 146 = .ok (.iconst 1, 1) := by decide +kernel
theorem dX3_readLine_147 : decode cX3_readLine 147 = .ok (.invokevirtual 105, 3) := by decide +kernel
theorem dX3_readLine_150 : decode cX3_readLine 150 = .ok (.ireturn, 1) := by decide +kernel
theorem dX3_readTown_0 : decode cX3_readTown 0 = .ok (.aload_n 2, 1) := by decide +kernel
theorem dX3_readTown_1 : decode cX3_readTown 1 = .ok (.getfield 109, 3) := by decide +kernel
theorem dX3_readTown_4 : decode cX3_readTown 4 = .ok (.istore_n 3, 1) := by decide +kernel
theorem dX3_readTown_5 : decode cX3_readTown 5 = .ok (.iload_n 3, 1) := by decide +kernel
theorem dX3_readTown_6 : decode cX3_readTown 6 = .ok (.bipush 6, 2) := by decide +kernel
theorem dX3_readTown_8 : decode cX3_readTown 8 = .ok (.if_icmp .lt 9, 3) := by decide +kernel
theorem dX3_readTown_11 : decode cX3_readTown 11 = .ok (.aload_n 1, 1) := by decide +kernel
theorem dX3_readTown_12 : decode cX3_readTown 12 = .ok (.iconst 5, 1) := by decide +kernel
theorem dX3_readTown_13 : decode cX3_readTown 13 = .ok (.invokevirtual 105, 3) := by decide +kernel
theorem dX3_readTown_16 : decode cX3_readTown 16 = .ok (.ireturn, 1) := by decide +kernel
theorem dX3_readTown_17 : decode cX3_readTown 17 = .ok (.aload_n 1, 1) := by decide +kernel
theorem dX3_readTown_18 : decode cX3_readTown 18 = .ok (.invokevirtual 112, 3) := by decide +kernel
theorem dX3_readTown_21 : decode cX3_readTown 21 = .ok (.aload_n 1, 1) := by decide +kernel
theorem dX3_readTown_22 : decode cX3_readTown 22 = .ok (.aload_n 2, 1) := by decide +kernel
theorem dX3_readTown_23 : decode cX3_readTown 23 = .ok (.invokestatic 115, 3) := by decide +kernel
theorem dX3_readTown_26 : decode cX3_readTown 26 = .ok (.ifCond .ne 5, 3) := by decide +kernel
theorem dX3_readTown_29 : decode cX3_readTown 29 = .ok (.iconst 0, 1) := by decide +kernel
theorem dX3_readTown_30 : decode cX3_readTown 30 = .ok (.ireturn, 1) := by decide +kernel
theorem dX3_readTown_31 : decode cX3_readTown 31 = .ok (.aload_n 2, 1) := by decide +kernel
theorem dX3_readTown_32 : decode cX3_readTown 32 = .ok (.getfield 118, 3) := by decide +kernel
theorem dX3_readTown_35 : decode cX3_readTown 35 = .ok (.iload_n 3, 1) := by decide +kernel
theorem dX3_readTown_36 : decode cX3_readTown 36 = .ok (.aload_n 1, 1) := by decide +kernel
theorem dX3_readTown_37 : decode cX3_readTown 37 = .ok (.getfield 122, 3) := by decide +kernel
theorem dX3_readTown_40 : decode cX3_readTown 40 = .ok (.lastore, 1) := by decide +kernel
theorem dX3_readTown_41 : decode cX3_readTown 41 = .ok (.aload_n 1, 1) := by decide +kernel
theorem dX3_readTown_42 : decode cX3_readTown 42 = .ok (.invokevirtual 112, 3) := by decide +kernel
theorem dX3_readTown_45 : decode cX3_readTown 45 = .ok (.aload_n 1, 1) := by decide +kernel
theorem dX3_readTown_46 : decode cX3_readTown 46 = .ok (.getstatic 126, 3) := by decide +kernel
theorem dX3_readTown_49 : decode cX3_readTown 49 = .ok (.invokevirtual 47, 3) := by decide +kernel
theorem dX3_readTown_52 : decode cX3_readTown 52 = .ok (.ifCond .ne 5, 3) := by decide +kernel
theorem dX3_readTown_55 : decode cX3_readTown 55 = .ok (.iconst 0, 1) := by decide +kernel
theorem dX3_readTown_56 : decode cX3_readTown 56 = .ok (.ireturn, 1) := by decide +kernel
theorem dX3_readTown_57 : decode cX3_readTown 57 = .ok (.aload_n 2, 1) := by decide +kernel
theorem dX3_readTown_58 : decode cX3_readTown 58 = .ok (.getfield 129, 3) := by decide +kernel
theorem dX3_readTown_61 : decode cX3_readTown 61 = .ok (.iload_n 3, 1) := by decide +kernel
theorem dX3_readTown_62 : decode cX3_readTown 62 = .ok (.aload_n 1, 1) := by decide +kernel
theorem dX3_readTown_63 : decode cX3_readTown 63 = .ok (.iconst 0, 1) := by decide +kernel
theorem dX3_readTown_64 : decode cX3_readTown 64 = .ok (.bipush 30, 2) := by decide +kernel
theorem dX3_readTown_66 : decode cX3_readTown 66 = .ok (.invokevirtual 133, 3) := by decide +kernel
theorem dX3_readTown_69 : decode cX3_readTown 69 = .ok (.iastore, 1) := by decide +kernel
theorem dX3_readTown_70 : decode cX3_readTown 70 = .ok (.aload_n 2, 1) := by decide +kernel
theorem dX3_readTown_71 : decode cX3_readTown 71 = .ok (.dup, 1) := by decide +kernel
theorem dX3_readTown_72 : decode cX3_readTown 72 = .ok (.getfield 109, 3) := by decide +kernel
theorem dX3_readTown_75 : decode cX3_readTown 75 = .ok (.iconst 1, 1) := by decide +kernel
theorem dX3_readTown_76 : decode cX3_readTown 76 = .ok (.iadd, 1) := by decide +kernel
theorem dX3_readTown_77 : decode cX3_readTown 77 = .ok (.putfield 109, 3) := by decide +kernel
theorem dX3_readTown_80 : decode cX3_readTown 80 = .ok (.aload_n 2, 1) := by decide +kernel
theorem dX3_readTown_81 : decode cX3_readTown 81 = .ok (.getfield 129, 3) := by decide +kernel
theorem dX3_readTown_84 : decode cX3_readTown 84 = .ok (.iload_n 3, 1) := by decide +kernel
theorem dX3_readTown_85 : decode cX3_readTown 85 = .ok (.iaload, 1) := by decide +kernel
theorem dX3_readTown_86 : decode cX3_readTown 86 = .ok (.iconst (-1), 1) := by decide +kernel
theorem dX3_readTown_87 : decode cX3_readTown 87 = .ok (.if_icmp .eq 7, 3) := by decide +kernel
theorem dX3_readTown_90 : decode cX3_readTown 90 = .ok (.iconst 1, 1) := by decide +kernel
theorem dX3_readTown_91 : decode cX3_readTown 91 = .ok (.goto 4, 3) := by decide +kernel
theorem dX3_readTown_94 : decode cX3_readTown 94 = .ok (.iconst 0, 1) := by decide +kernel
theorem dX3_readTown_95 : decode cX3_readTown 95 = .ok (.ireturn, 1) := by decide +kernel
theorem dX3_readRoad_0 : decode cX3_readRoad 0 = .ok (.aload_n 1, 1) := by decide +kernel
theorem dX3_readRoad_1 : decode cX3_readRoad 1 = .ok (.invokevirtual 112, 3) := by decide +kernel
theorem dX3_readRoad_4 : decode cX3_readRoad 4 = .ok (.aload_n 1, 1) := by decide +kernel
theorem dX3_readRoad_5 : decode cX3_readRoad 5 = .ok (.aload_n 2, 1) := by decide +kernel
theorem dX3_readRoad_6 : decode cX3_readRoad 6 = .ok (.invokevirtual 137, 3) := by decide +kernel
theorem dX3_readRoad_9 : decode cX3_readRoad 9 = .ok (.istore_n 3, 1) := by decide +kernel
theorem dX3_readRoad_10 : decode cX3_readRoad 10 = .ok (.iload_n 3, 1) := by decide +kernel
theorem dX3_readRoad_11 : decode cX3_readRoad 11 = .ok (.iconst (-1), 1) := by decide +kernel
theorem dX3_readRoad_12 : decode cX3_readRoad 12 = .ok (.if_icmp .ne 5, 3) := by decide +kernel
theorem dX3_readRoad_15 : decode cX3_readRoad 15 = .ok (.iconst 0, 1) := by decide +kernel
theorem dX3_readRoad_16 : decode cX3_readRoad 16 = .ok (.ireturn, 1) := by decide +kernel
theorem dX3_readRoad_17 : decode cX3_readRoad 17 = .ok (.aload_n 1, 1) := by decide +kernel
theorem dX3_readRoad_18 : decode cX3_readRoad 18 = .ok (.invokevirtual 112, 3) := by decide +kernel
theorem dX3_readRoad_21 : decode cX3_readRoad 21 = .ok (.aload_n 1, 1) := by decide +kernel
theorem dX3_readRoad_22 : decode cX3_readRoad 22 = .ok (.aload_n 2, 1) := by decide +kernel
theorem dX3_readRoad_23 : decode cX3_readRoad 23 = .ok (.invokevirtual 137, 3) := by decide +kernel
theorem dX3_readRoad_26 : decode cX3_readRoad 26 = .ok (.istore 4, 2) := by decide +kernel
theorem dX3_readRoad_28 : decode cX3_readRoad 28 = .ok (.iload 4, 2) := by decide +kernel
theorem dX3_readRoad_30 : decode cX3_readRoad 30 = .ok (.iconst (-1), 1) := by decide +kernel
theorem dX3_readRoad_31 : decode cX3_readRoad 31 = .ok (.if_icmp .ne 5, 3) := by decide +kernel
theorem dX3_readRoad_34 : decode cX3_readRoad 34 = .ok (.iconst 0, 1) := by decide +kernel
theorem dX3_readRoad_35 : decode cX3_readRoad 35 = .ok (.ireturn, 1) := by decide +kernel
theorem dX3_readRoad_36 : decode cX3_readRoad 36 = .ok (.iload_n 3, 1) := by decide +kernel
theorem dX3_readRoad_37 : decode cX3_readRoad 37 = .ok (.iload 4, 2) := by decide +kernel
theorem dX3_readRoad_39 : decode cX3_readRoad 39 = .ok (.if_icmp .eq 17, 3) := by decide +kernel
theorem dX3_readRoad_42 : decode cX3_readRoad 42 = .ok (.aload_n 2, 1) := by decide +kernel
theorem dX3_readRoad_43 : decode cX3_readRoad 43 = .ok (.getfield 141, 3) := by decide +kernel
theorem dX3_readRoad_46 : decode cX3_readRoad 46 = .ok (.iload_n 3, 1) := by decide +kernel
theorem dX3_readRoad_47 : decode cX3_readRoad 47 = .ok (.iaload, 1) := by decide +kernel
theorem dX3_readRoad_48 : decode cX3_readRoad 48 = .ok (.iload 4, 2) := by decide +kernel
theorem dX3_readRoad_50 : decode cX3_readRoad 50 = .ok (.invokestatic 144, 3) := by decide +kernel
theorem dX3_readRoad_53 : decode cX3_readRoad 53 = .ok (.ifCond .eq 9, 3) := by decide +kernel
theorem dX3_readRoad_56 : decode cX3_readRoad 56 = .ok (.aload_n 1, 1) := by decide +kernel
theorem dX3_readRoad_57 : decode cX3_readRoad 57 = .ok (.iconst 3, 1) := by decide +kernel
theorem dX3_readRoad_58 : decode cX3_readRoad 58 = .ok (.invokevirtual 105, 3) := by decide +kernel
theorem dX3_readRoad_61 : decode cX3_readRoad 61 = .ok (.ireturn, 1) := by decide +kernel
theorem dX3_readRoad_62 : decode cX3_readRoad 62 = .ok (.aload_n 1, 1) := by decide +kernel
theorem dX3_readRoad_63 : decode cX3_readRoad 63 = .ok (.invokevirtual 112, 3) := by decide +kernel
theorem dX3_readRoad_66 : decode cX3_readRoad 66 = .ok (.aload_n 2, 1) := by decide +kernel
theorem dX3_readRoad_67 : decode cX3_readRoad 67 = .ok (.getfield 141, 3) := by decide +kernel
theorem dX3_readRoad_70 : decode cX3_readRoad 70 = .ok (.iload_n 3, 1) := by decide +kernel
theorem dX3_readRoad_71 : decode cX3_readRoad 71 = .ok (.dup2, 1) := by decide +kernel
theorem dX3_readRoad_72 : decode cX3_readRoad 72 = .ok (.iaload, 1) := by decide +kernel
theorem dX3_readRoad_73 : decode cX3_readRoad 73 = .ok (.iconst 1, 1) := by decide +kernel
theorem dX3_readRoad_74 : decode cX3_readRoad 74 = .ok (.iload 4, 2) := by decide +kernel
theorem dX3_readRoad_76 : decode cX3_readRoad 76 = .ok (.ishl, 1) := by decide +kernel
theorem dX3_readRoad_77 : decode cX3_readRoad 77 = .ok (.ior, 1) := by decide +kernel
theorem dX3_readRoad_78 : decode cX3_readRoad 78 = .ok (.iastore, 1) := by decide +kernel
theorem dX3_readRoad_79 : decode cX3_readRoad 79 = .ok (.aload_n 2, 1) := by decide +kernel
theorem dX3_readRoad_80 : decode cX3_readRoad 80 = .ok (.getfield 141, 3) := by decide +kernel
theorem dX3_readRoad_83 : decode cX3_readRoad 83 = .ok (.iload 4, 2) := by decide +kernel
theorem dX3_readRoad_85 : decode cX3_readRoad 85 = .ok (.dup2, 1) := by decide +kernel
theorem dX3_readRoad_86 : decode cX3_readRoad 86 = .ok (.iaload, 1) := by decide +kernel
theorem dX3_readRoad_87 : decode cX3_readRoad 87 = .ok (.iconst 1, 1) := by decide +kernel
theorem dX3_readRoad_88 : decode cX3_readRoad 88 = .ok (.iload_n 3, 1) := by decide +kernel
theorem dX3_readRoad_89 : decode cX3_readRoad 89 = .ok (.ishl, 1) := by decide +kernel
theorem dX3_readRoad_90 : decode cX3_readRoad 90 = .ok (.ior, 1) := by decide +kernel
theorem dX3_readRoad_91 : decode cX3_readRoad 91 = .ok (.iastore, 1) := by decide +kernel
theorem dX3_readRoad_92 : decode cX3_readRoad 92 = .ok (.iconst 1, 1) := by decide +kernel
theorem dX3_readRoad_93 : decode cX3_readRoad 93 = .ok (.ireturn, 1) := by decide +kernel
theorem dX3_readPerson_0 : decode cX3_readPerson 0 = .ok (.aload_n 2, 1) := by decide +kernel
theorem dX3_readPerson_1 : decode cX3_readPerson 1 = .ok (.getfield 69, 3) := by decide +kernel
theorem dX3_readPerson_4 : decode cX3_readPerson 4 = .ok (.istore_n 3, 1) := by decide +kernel
theorem dX3_readPerson_5 : decode cX3_readPerson 5 = .ok (.iload_n 3, 1) := by decide +kernel
theorem dX3_readPerson_6 : decode cX3_readPerson 6 = .ok (.bipush 6, 2) := by decide +kernel
theorem dX3_readPerson_8 : decode cX3_readPerson 8 = .ok (.if_icmp .lt 9, 3) := by decide +kernel
theorem dX3_readPerson_11 : decode cX3_readPerson 11 = .ok (.aload_n 1, 1) := by decide +kernel
theorem dX3_readPerson_12 : decode cX3_readPerson 12 = .ok (.iconst 5, 1) := by decide +kernel
theorem dX3_readPerson_13 : decode cX3_readPerson 13 = .ok (.invokevirtual 105, 3) := by decide +kernel
theorem dX3_readPerson_16 : decode cX3_readPerson 16 = .ok (.ireturn, 1) := by decide +kernel
theorem dX3_readPerson_17 : decode cX3_readPerson 17 = .ok (.aload_n 1, 1) := by decide +kernel
theorem dX3_readPerson_18 : decode cX3_readPerson 18 = .ok (.invokevirtual 112, 3) := by decide +kernel
theorem dX3_readPerson_21 : decode cX3_readPerson 21 = .ok (.aload_n 1, 1) := by decide +kernel
theorem dX3_readPerson_22 : decode cX3_readPerson 22 = .ok (.aload_n 2, 1) := by decide +kernel
theorem dX3_readPerson_23 : decode cX3_readPerson 23 = .ok (.invokestatic 115, 3) := by decide +kernel
theorem dX3_readPerson_26 : decode cX3_readPerson 26 = .ok (.ifCond .ne 5, 3) := by decide +kernel
theorem dX3_readPerson_29 : decode cX3_readPerson 29 = .ok (.iconst 0, 1) := by decide +kernel
theorem dX3_readPerson_30 : decode cX3_readPerson 30 = .ok (.ireturn, 1) := by decide +kernel
theorem dX3_readPerson_31 : decode cX3_readPerson 31 = .ok (.aload_n 2, 1) := by decide +kernel
theorem dX3_readPerson_32 : decode cX3_readPerson 32 = .ok (.getfield 148, 3) := by decide +kernel
theorem dX3_readPerson_35 : decode cX3_readPerson 35 = .ok (.iload_n 3, 1) := by decide +kernel
theorem dX3_readPerson_36 : decode cX3_readPerson 36 = .ok (.aload_n 1, 1) := by decide +kernel
theorem dX3_readPerson_37 : decode cX3_readPerson 37 = .ok (.getfield 122, 3) := by decide +kernel
theorem dX3_readPerson_40 : decode cX3_readPerson 40 = .ok (.lastore, 1) := by decide +kernel
theorem dX3_readPerson_41 : decode cX3_readPerson 41 = .ok (.aload_n 1, 1) := by decide +kernel
theorem dX3_readPerson_42 : decode cX3_readPerson 42 = .ok (.invokevirtual 112, 3) := by decide +kernel
theorem dX3_readPerson_45 : decode cX3_readPerson 45 = .ok (.aload_n 2, 1) := by decide +kernel
theorem dX3_readPerson_46 : decode cX3_readPerson 46 = .ok (.getfield 151, 3) := by decide +kernel
theorem dX3_readPerson_49 : decode cX3_readPerson 49 = .ok (.iload_n 3, 1) := by decide +kernel
theorem dX3_readPerson_50 : decode cX3_readPerson 50 = .ok (.aload_n 1, 1) := by decide +kernel
theorem dX3_readPerson_51 : decode cX3_readPerson 51 = .ok (.invokestatic 154, 3) := by decide +kernel
theorem dX3_readPerson_54 : decode cX3_readPerson 54 = .ok (.iastore, 1) := by decide +kernel
theorem dX3_readPerson_55 : decode cX3_readPerson 55 = .ok (.aload_n 2, 1) := by decide +kernel
theorem dX3_readPerson_56 : decode cX3_readPerson 56 = .ok (.getfield 151, 3) := by decide +kernel
theorem dX3_readPerson_59 : decode cX3_readPerson 59 = .ok (.iload_n 3, 1) := by decide +kernel
theorem dX3_readPerson_60 : decode cX3_readPerson 60 = .ok (.iaload, 1) := by decide +kernel
theorem dX3_readPerson_61 : decode cX3_readPerson 61 = .ok (.iconst (-1), 1) := by decide +kernel
theorem dX3_readPerson_62 : decode cX3_readPerson 62 = .ok (.if_icmp .ne 9, 3) := by decide +kernel
theorem dX3_readPerson_65 : decode cX3_readPerson 65 = .ok (.aload_n 1, 1) := by decide +kernel
theorem dX3_readPerson_66 : decode cX3_readPerson 66 = .ok (.iconst 1, 1) := by decide +kernel
theorem dX3_readPerson_67 : decode cX3_readPerson 67 = .ok (.invokevirtual 105, 3) := by decide +kernel
theorem dX3_readPerson_70 : decode cX3_readPerson 70 = .ok (.ireturn, 1) := by decide +kernel
theorem dX3_readPerson_71 : decode cX3_readPerson 71 = .ok (.aload_n 1, 1) := by decide +kernel
theorem dX3_readPerson_72 : decode cX3_readPerson 72 = .ok (.invokevirtual 112, 3) := by decide +kernel
theorem dX3_readPerson_75 : decode cX3_readPerson 75 = .ok (.aload_n 1, 1) := by decide +kernel
theorem dX3_readPerson_76 : decode cX3_readPerson 76 = .ok (.getstatic 158, 3) := by decide +kernel
theorem dX3_readPerson_79 : decode cX3_readPerson 79 = .ok (.invokevirtual 47, 3) := by decide +kernel
theorem dX3_readPerson_82 : decode cX3_readPerson 82 = .ok (.ifCond .ne 5, 3) := by decide +kernel
theorem dX3_readPerson_85 : decode cX3_readPerson 85 = .ok (.iconst 0, 1) := by decide +kernel
theorem dX3_readPerson_86 : decode cX3_readPerson 86 = .ok (.ireturn, 1) := by decide +kernel
theorem dX3_readPerson_87 : decode cX3_readPerson 87 = .ok (.aload_n 2, 1) := by decide +kernel
theorem dX3_readPerson_88 : decode cX3_readPerson 88 = .ok (.getfield 161, 3) := by decide +kernel
theorem dX3_readPerson_91 : decode cX3_readPerson 91 = .ok (.iload_n 3, 1) := by decide +kernel
theorem dX3_readPerson_92 : decode cX3_readPerson 92 = .ok (.aload_n 1, 1) := by decide +kernel
theorem dX3_readPerson_93 : decode cX3_readPerson 93 = .ok (.aload_n 2, 1) := by decide +kernel
theorem dX3_readPerson_94 : decode cX3_readPerson 94 = .ok (.invokevirtual 137, 3) := by decide +kernel
theorem dX3_readPerson_97 : decode cX3_readPerson 97 = .ok (.iastore, 1) := by decide +kernel
theorem dX3_readPerson_98 : decode cX3_readPerson 98 = .ok (.aload_n 2, 1) := by decide +kernel
theorem dX3_readPerson_99 : decode cX3_readPerson 99 = .ok (.getfield 161, 3) := by decide +kernel
theorem dX3_readPerson_102 : decode cX3_readPerson 102 = .ok (.iload_n 3, 1) := by decide +kernel
theorem dX3_readPerson_103 : decode cX3_readPerson 103 = .ok (.iaload, 1) := by decide +kernel
theorem dX3_readPerson_104 : decode cX3_readPerson 104 = .ok (.iconst (-1), 1) := by decide +kernel
theorem dX3_readPerson_105 : decode cX3_readPerson 105 = .ok (.if_icmp .ne 5, 3) := by decide +kernel
theorem dX3_readPerson_108 : decode cX3_readPerson 108 = .ok (.iconst 0, 1) := by decide +kernel
theorem dX3_readPerson_109 : decode cX3_readPerson 109 = .ok (.ireturn, 1) := by decide +kernel
theorem dX3_readPerson_110 : decode cX3_readPerson 110 = .ok (.aload_n 1, 1) := by decide +kernel
theorem dX3_readPerson_111 : decode cX3_readPerson 111 = .ok (.invokevirtual 112, 3) := by decide +kernel
theorem dX3_readPerson_114 : decode cX3_readPerson 114 = .ok (.aload_n 2, 1) := by decide +kernel
theorem dX3_readPerson_115 : decode cX3_readPerson 115 = .ok (.dup, 1) := by decide +kernel
theorem dX3_readPerson_116 : decode cX3_readPerson 116 = .ok (.getfield 69, 3) := by decide +kernel
theorem dX3_readPerson_119 : decode cX3_readPerson 119 = .ok (.iconst 1, 1) := by decide +kernel
theorem dX3_readPerson_120 : decode cX3_readPerson 120 = .ok (.iadd, 1) := by decide +kernel
theorem dX3_readPerson_121 : decode cX3_readPerson 121 = .ok (.putfield 69, 3) := by decide +kernel
theorem dX3_readPerson_124 : decode cX3_readPerson 124 = .ok (.iconst 1, 1) := by decide +kernel
theorem dX3_readPerson_125 : decode cX3_readPerson 125 = .ok (.ireturn, 1) := by decide +kernel
theorem dX3_readGoods_0 : decode cX3_readGoods 0 = .ok (.aload_n 1, 1) := by decide +kernel
theorem dX3_readGoods_1 : decode cX3_readGoods 1 = .ok (.getstatic 164, 3) := by decide +kernel
theorem dX3_readGoods_4 : decode cX3_readGoods 4 = .ok (.invokevirtual 47, 3) := by decide +kernel
theorem dX3_readGoods_7 : decode cX3_readGoods 7 = .ok (.ifCond .ne 5, 3) := by decide +kernel
theorem dX3_readGoods_10 : decode cX3_readGoods 10 = .ok (.iconst 0, 1) := by decide +kernel
theorem dX3_readGoods_11 : decode cX3_readGoods 11 = .ok (.ireturn, 1) := by decide +kernel
theorem dX3_readGoods_12 : decode cX3_readGoods 12 = .ok (.aload_n 2, 1) := by decide +kernel
theorem dX3_readGoods_13 : decode cX3_readGoods 13 = .ok (.getfield 167, 3) := by decide +kernel
theorem dX3_readGoods_16 : decode cX3_readGoods 16 = .ok (.iload_n 3, 1) := by decide +kernel
theorem dX3_readGoods_17 : decode cX3_readGoods 17 = .ok (.aload_n 1, 1) := by decide +kernel
theorem dX3_readGoods_18 : decode cX3_readGoods 18 = .ok (.iconst 0, 1) := by decide +kernel
theorem dX3_readGoods_19 : decode cX3_readGoods 19 = .ok (.bipush 30, 2) := by decide +kernel
theorem dX3_readGoods_21 : decode cX3_readGoods 21 = .ok (.invokevirtual 133, 3) := by decide +kernel
theorem dX3_readGoods_24 : decode cX3_readGoods 24 = .ok (.iastore, 1) := by decide +kernel
theorem dX3_readGoods_25 : decode cX3_readGoods 25 = .ok (.aload_n 2, 1) := by decide +kernel
theorem dX3_readGoods_26 : decode cX3_readGoods 26 = .ok (.getfield 167, 3) := by decide +kernel
theorem dX3_readGoods_29 : decode cX3_readGoods 29 = .ok (.iload_n 3, 1) := by decide +kernel
theorem dX3_readGoods_30 : decode cX3_readGoods 30 = .ok (.iaload, 1) := by decide +kernel
theorem dX3_readGoods_31 : decode cX3_readGoods 31 = .ok (.iconst (-1), 1) := by decide +kernel
theorem dX3_readGoods_32 : decode cX3_readGoods 32 = .ok (.if_icmp .eq 13, 3) := by decide +kernel
theorem dX3_readGoods_35 : decode cX3_readGoods 35 = .ok (.aload_n 1, 1) := by decide +kernel
theorem dX3_readGoods_36 : decode cX3_readGoods 36 = .ok (.getstatic 170, 3) := by decide +kernel
theorem dX3_readGoods_39 : decode cX3_readGoods 39 = .ok (.invokevirtual 47, 3) := by decide +kernel
theorem dX3_readGoods_42 : decode cX3_readGoods 42 = .ok (.ifCond .ne 5, 3) := by decide +kernel
theorem dX3_readGoods_45 : decode cX3_readGoods 45 = .ok (.iconst 0, 1) := by decide +kernel
theorem dX3_readGoods_46 : decode cX3_readGoods 46 = .ok (.ireturn, 1) := by decide +kernel
theorem dX3_readGoods_47 : decode cX3_readGoods 47 = .ok (.aload_n 2, 1) := by decide +kernel
theorem dX3_readGoods_48 : decode cX3_readGoods 48 = .ok (.getfield 173, 3) := by decide +kernel
theorem dX3_readGoods_51 : decode cX3_readGoods 51 = .ok (.iload_n 3, 1) := by decide +kernel
theorem dX3_readGoods_52 : decode cX3_readGoods 52 = .ok (.aload_n 1, 1) := by decide +kernel
theorem dX3_readGoods_53 : decode cX3_readGoods 53 = .ok (.iconst 0, 1) := by decide +kernel
theorem dX3_readGoods_54 : decode cX3_readGoods 54 = .ok (.bipush 99, 2) := by decide +kernel
theorem dX3_readGoods_56 : decode cX3_readGoods 56 = .ok (.invokevirtual 133, 3) := by decide +kernel
theorem dX3_readGoods_59 : decode cX3_readGoods 59 = .ok (.iastore, 1) := by decide +kernel
theorem dX3_readGoods_60 : decode cX3_readGoods 60 = .ok (.aload_n 2, 1) := by decide +kernel
theorem dX3_readGoods_61 : decode cX3_readGoods 61 = .ok (.getfield 173, 3) := by decide +kernel
theorem dX3_readGoods_64 : decode cX3_readGoods 64 = .ok (.iload_n 3, 1) := by decide +kernel
theorem dX3_readGoods_65 : decode cX3_readGoods 65 = .ok (.iaload, 1) := by decide +kernel
theorem dX3_readGoods_66 : decode cX3_readGoods 66 = .ok (.iconst (-1), 1) := by decide +kernel
theorem dX3_readGoods_67 : decode cX3_readGoods 67 = .ok (.if_icmp .eq 7, 3) := by decide +kernel
theorem dX3_readGoods_70 : decode cX3_readGoods 70 = .ok (.iconst 1, 1) := by decide +kernel
theorem dX3_readGoods_71 : decode cX3_readGoods 71 = .ok (.goto 4, 3) := by decide +kernel
theorem dX3_readGoods_74 : decode cX3_readGoods 74 = .ok (.iconst 0, 1) := by decide +kernel
theorem dX3_readGoods_75 : decode cX3_readGoods 75 = .ok (.ireturn, 1) := by decide +kernel
theorem dX3_kindHere_0 : decode cX3_kindHere 0 = .ok (.aload_n 0, 1) := by decide +kernel
theorem dX3_kindHere_1 : decode cX3_kindHere 1 = .ok (.getfield 31, 3) := by decide +kernel
theorem dX3_kindHere_4 : decode cX3_kindHere 4 = .ok (.getstatic 176, 3) := by decide +kernel
theorem dX3_kindHere_7 : decode cX3_kindHere 7 = .ok (.if_acmp .ne 5, 3) := by decide +kernel
theorem dX3_kindHere_10 : decode cX3_kindHere 10 = .ok (.iconst 0, 1) := by decide +kernel
theorem dX3_kindHere_11 : decode cX3_kindHere 11 = .ok (.ireturn, 1) := by decide +kernel
theorem dX3_kindHere_12 : decode cX3_kindHere 12 = .ok (.aload_n 0, 1) := by decide +kernel
theorem dX3_kindHere_13 : decode cX3_kindHere 13 = .ok (.getfield 31, 3) := by decide +kernel
theorem dX3_kindHere_16 : decode cX3_kindHere 16 = .ok (.getstatic 179, 3) := by decide +kernel
theorem dX3_kindHere_19 : decode cX3_kindHere 19 = .ok (.if_acmp .ne 5, 3) := by decide +kernel
theorem dX3_kindHere_22 : decode cX3_kindHere 22 = .ok (.iconst 1, 1) := by decide +kernel
theorem dX3_kindHere_23 : decode cX3_kindHere 23 = .ok (.ireturn, 1) := by decide +kernel
theorem dX3_kindHere_24 : decode cX3_kindHere 24 = .ok (.aload_n 0, 1) := by decide +kernel
theorem dX3_kindHere_25 : decode cX3_kindHere 25 = .ok (.getfield 31, 3) := by decide +kernel
theorem dX3_kindHere_28 : decode cX3_kindHere 28 = .ok (.getstatic 182, 3) := by decide +kernel
theorem dX3_kindHere_31 : decode cX3_kindHere 31 = .ok (.if_acmp .ne 5, 3) := by decide +kernel
theorem dX3_kindHere_34 : decode cX3_kindHere 34 = .ok (.iconst 2, 1) := by decide +kernel
theorem dX3_kindHere_35 : decode cX3_kindHere 35 = .ok (.ireturn, 1) := by decide +kernel
theorem dX3_kindHere_36 : decode cX3_kindHere 36 = .ok (.aload_n 0, 1) := by decide +kernel
theorem dX3_kindHere_37 : decode cX3_kindHere 37 = .ok (.getfield 31, 3) := by decide +kernel
theorem dX3_kindHere_40 : decode cX3_kindHere 40 = .ok (.getstatic 185, 3) := by decide +kernel
theorem dX3_kindHere_43 : decode cX3_kindHere 43 = .ok (.if_acmp .ne 7, 3) := by decide +kernel
theorem dX3_kindHere_46 : decode cX3_kindHere 46 = .ok (.iconst 3, 1) := by decide +kernel
theorem dX3_kindHere_47 : decode cX3_kindHere 47 = .ok (.goto 4, 3) := by decide +kernel
theorem dX3_kindHere_50 : decode cX3_kindHere 50 = .ok (.iconst (-1), 1) := by decide +kernel
theorem dX3_kindHere_51 : decode cX3_kindHere 51 = .ok (.ireturn, 1) := by decide +kernel
theorem dX3_isNewName_0 : decode cX3_isNewName 0 = .ok (.aload_n 0, 1) := by decide +kernel
theorem dX3_isNewName_1 : decode cX3_isNewName 1 = .ok (.getfield 31, 3) := by decide +kernel
theorem dX3_isNewName_4 : decode cX3_isNewName 4 = .ok (.getstatic 188, 3) := by decide +kernel
theorem dX3_isNewName_7 : decode cX3_isNewName 7 = .ok (.if_acmp .eq 9, 3) := by decide +kernel
theorem dX3_isNewName_10 : decode cX3_isNewName 10 = .ok (.aload_n 0, 1) := by decide +kernel
theorem dX3_isNewName_11 : decode cX3_isNewName 11 = .ok (.iconst 1, 1) := by decide +kernel
theorem dX3_isNewName_12 : decode cX3_isNewName 12 = .ok (.invokevirtual 105, 3) := by decide +kernel
theorem dX3_isNewName_15 : decode cX3_isNewName 15 = .ok (.ireturn, 1) := by decide +kernel
theorem dX3_isNewName_16 : decode cX3_isNewName 16 = .ok (.aload_n 1, 1) := by decide +kernel
theorem dX3_isNewName_17 : decode cX3_isNewName 17 = .ok (.aload_n 0, 1) := by decide +kernel
theorem dX3_isNewName_18 : decode cX3_isNewName 18 = .ok (.getfield 122, 3) := by decide +kernel
theorem dX3_isNewName_21 : decode cX3_isNewName 21 = .ok (.invokevirtual 191, 3) := by decide +kernel
theorem dX3_isNewName_24 : decode cX3_isNewName 24 = .ok (.iconst (-1), 1) := by decide +kernel
theorem dX3_isNewName_25 : decode cX3_isNewName 25 = .ok (.if_icmp .ne 15, 3) := by decide +kernel
theorem dX3_isNewName_28 : decode cX3_isNewName 28 = .ok (.aload_n 1, 1) := by decide +kernel
theorem dX3_isNewName_29 : decode cX3_isNewName 29 = .ok (.aload_n 0, 1) := by decide +kernel
theorem dX3_isNewName_30 : decode cX3_isNewName 30 = .ok (.getfield 122, 3) := by decide +kernel
theorem dX3_isNewName_33 : decode cX3_isNewName 33 = .ok (.invokevirtual 195, 3) := by decide +kernel
theorem dX3_isNewName_36 : decode cX3_isNewName 36 = .ok (.iconst (-1), 1) := by decide +kernel
theorem dX3_isNewName_37 : decode cX3_isNewName 37 = .ok (.if_icmp .eq 9, 3) := by decide +kernel
theorem dX3_isNewName_40 : decode cX3_isNewName 40 = .ok (.aload_n 0, 1) := by decide +kernel
theorem dX3_isNewName_41 : decode cX3_isNewName 41 = .ok (.iconst 3, 1) := by decide +kernel
theorem dX3_isNewName_42 : decode cX3_isNewName 42 = .ok (.invokevirtual 105, 3) := by decide +kernel
theorem dX3_isNewName_45 : decode cX3_isNewName 45 = .ok (.ireturn, 1) := by decide +kernel
theorem dX3_isNewName_46 : decode cX3_isNewName 46 = .ok (.iconst 1, 1) := by decide +kernel
theorem dX3_isNewName_47 : decode cX3_isNewName 47 = .ok (.ireturn, 1) := by decide +kernel
theorem dX3_readGrows_0 : decode cX3_readGrows 0 = .ok (.aload_n 0, 1) := by decide +kernel
theorem dX3_readGrows_1 : decode cX3_readGrows 1 = .ok (.getfield 9, 3) := by decide +kernel
theorem dX3_readGrows_4 : decode cX3_readGrows 4 = .ok (.ifCond .eq 9, 3) := by decide +kernel
theorem dX3_readGrows_7 : decode cX3_readGrows 7 = .ok (.aload_n 1, 1) := by decide +kernel
theorem dX3_readGrows_8 : decode cX3_readGrows 8 = .ok (.iconst 3, 1) := by decide +kernel
theorem dX3_readGrows_9 : decode cX3_readGrows 9 = .ok (.invokevirtual 105, 3) := by decide +kernel
theorem dX3_readGrows_12 : decode cX3_readGrows 12 = .ok (.ireturn, 1) := by decide +kernel
theorem dX3_readGrows_13 : decode cX3_readGrows 13 = .ok (.aload_n 0, 1) := by decide +kernel
theorem dX3_readGrows_14 : decode cX3_readGrows 14 = .ok (.iconst 1, 1) := by decide +kernel
theorem dX3_readGrows_15 : decode cX3_readGrows 15 = .ok (.putfield 9, 3) := by decide +kernel
theorem dX3_readGrows_18 : decode cX3_readGrows 18 = .ok (.aload_n 1, 1) := by decide +kernel
theorem dX3_readGrows_19 : decode cX3_readGrows 19 = .ok (.invokevirtual 112, 3) := by decide +kernel
theorem dX3_readGrows_22 : decode cX3_readGrows 22 = .ok (.aload_n 2, 1) := by decide +kernel
theorem dX3_readGrows_23 : decode cX3_readGrows 23 = .ok (.aload_n 1, 1) := by decide +kernel
theorem dX3_readGrows_24 : decode cX3_readGrows 24 = .ok (.iconst 0, 1) := by decide +kernel
theorem dX3_readGrows_25 : decode cX3_readGrows 25 = .ok (.iconst 5, 1) := by decide +kernel
theorem dX3_readGrows_26 : decode cX3_readGrows 26 = .ok (.invokevirtual 133, 3) := by decide +kernel
theorem dX3_readGrows_29 : decode cX3_readGrows 29 = .ok (.putfield 198, 3) := by decide +kernel
theorem dX3_readGrows_32 : decode cX3_readGrows 32 = .ok (.aload_n 2, 1) := by decide +kernel
theorem dX3_readGrows_33 : decode cX3_readGrows 33 = .ok (.getfield 198, 3) := by decide +kernel
theorem dX3_readGrows_36 : decode cX3_readGrows 36 = .ok (.iconst (-1), 1) := by decide +kernel
theorem dX3_readGrows_37 : decode cX3_readGrows 37 = .ok (.if_icmp .eq 7, 3) := by decide +kernel
theorem dX3_readGrows_40 : decode cX3_readGrows 40 = .ok (.iconst 1, 1) := by decide +kernel
theorem dX3_readGrows_41 : decode cX3_readGrows 41 = .ok (.goto 4, 3) := by decide +kernel
theorem dX3_readGrows_44 : decode cX3_readGrows 44 = .ok (.iconst 0, 1) := by decide +kernel
theorem dX3_readGrows_45 : decode cX3_readGrows 45 = .ok (.ireturn, 1) := by decide +kernel
theorem dX3_readInch_0 : decode cX3_readInch 0 = .ok (.aload_n 0, 1) := by decide +kernel
theorem dX3_readInch_1 : decode cX3_readInch 1 = .ok (.getfield 15, 3) := by decide +kernel
theorem dX3_readInch_4 : decode cX3_readInch 4 = .ok (.ifCond .eq 9, 3) := by decide +kernel
theorem dX3_readInch_7 : decode cX3_readInch 7 = .ok (.aload_n 1, 1) := by decide +kernel
theorem dX3_readInch_8 : decode cX3_readInch 8 = .ok (.iconst 3, 1) := by decide +kernel
theorem dX3_readInch_9 : decode cX3_readInch 9 = .ok (.invokevirtual 105, 3) := by decide +kernel
theorem dX3_readInch_12 : decode cX3_readInch 12 = .ok (.ireturn, 1) := by decide +kernel
theorem dX3_readInch_13 : decode cX3_readInch 13 = .ok (.aload_n 0, 1) := by decide +kernel
theorem dX3_readInch_14 : decode cX3_readInch 14 = .ok (.iconst 1, 1) := by decide +kernel
theorem dX3_readInch_15 : decode cX3_readInch 15 = .ok (.putfield 15, 3) := by decide +kernel
theorem dX3_readInch_18 : decode cX3_readInch 18 = .ok (.aload_n 1, 1) := by decide +kernel
theorem dX3_readInch_19 : decode cX3_readInch 19 = .ok (.invokevirtual 112, 3) := by decide +kernel
theorem dX3_readInch_22 : decode cX3_readInch 22 = .ok (.aload_n 2, 1) := by decide +kernel
theorem dX3_readInch_23 : decode cX3_readInch 23 = .ok (.aload_n 1, 1) := by decide +kernel
theorem dX3_readInch_24 : decode cX3_readInch 24 = .ok (.iconst 1, 1) := by decide +kernel
theorem dX3_readInch_25 : decode cX3_readInch 25 = .ok (.bipush 9, 2) := by decide +kernel
theorem dX3_readInch_27 : decode cX3_readInch 27 = .ok (.invokevirtual 133, 3) := by decide +kernel
theorem dX3_readInch_30 : decode cX3_readInch 30 = .ok (.putfield 201, 3) := by decide +kernel
theorem dX3_readInch_33 : decode cX3_readInch 33 = .ok (.aload_n 2, 1) := by decide +kernel
theorem dX3_readInch_34 : decode cX3_readInch 34 = .ok (.getfield 201, 3) := by decide +kernel
theorem dX3_readInch_37 : decode cX3_readInch 37 = .ok (.iconst (-1), 1) := by decide +kernel
theorem dX3_readInch_38 : decode cX3_readInch 38 = .ok (.if_icmp .eq 7, 3) := by decide +kernel
theorem dX3_readInch_41 : decode cX3_readInch 41 = .ok (.iconst 1, 1) := by decide +kernel
theorem dX3_readInch_42 : decode cX3_readInch 42 = .ok (.goto 4, 3) := by decide +kernel
theorem dX3_readInch_45 : decode cX3_readInch 45 = .ok (.iconst 0, 1) := by decide +kernel
theorem dX3_readInch_46 : decode cX3_readInch 46 = .ok (.ireturn, 1) := by decide +kernel
theorem dX3_beginReads_0 : decode cX3_beginReads 0 = .ok (.aload_n 0, 1) := by decide +kernel
theorem dX3_beginReads_1 : decode cX3_beginReads 1 = .ok (.getfield 18, 3) := by decide +kernel
theorem dX3_beginReads_4 : decode cX3_beginReads 4 = .ok (.ifCond .eq 9, 3) := by decide +kernel
theorem dX3_beginReads_7 : decode cX3_beginReads 7 = .ok (.aload_n 1, 1) := by decide +kernel
theorem dX3_beginReads_8 : decode cX3_beginReads 8 = .ok (.iconst 3, 1) := by decide +kernel
theorem dX3_beginReads_9 : decode cX3_beginReads 9 = .ok (.invokevirtual 105, 3) := by decide +kernel
theorem dX3_beginReads_12 : decode cX3_beginReads 12 = .ok (.ireturn, 1) := by decide +kernel
theorem dX3_beginReads_13 : decode cX3_beginReads 13 = .ok (.aload_n 0, 1) := by decide +kernel
theorem dX3_beginReads_14 : decode cX3_beginReads 14 = .ok (.iconst 1, 1) := by decide +kernel
theorem dX3_beginReads_15 : decode cX3_beginReads 15 = .ok (.putfield 18, 3) := by decide +kernel
theorem dX3_beginReads_18 : decode cX3_beginReads 18 = .ok (.aload_n 1, 1) := by decide +kernel
theorem dX3_beginReads_19 : decode cX3_beginReads 19 = .ok (.invokevirtual 112, 3) := by decide +kernel
theorem dX3_beginReads_22 : decode cX3_beginReads 22 = .ok (.aload_n 2, 1) := by decide +kernel
theorem dX3_beginReads_23 : decode cX3_beginReads 23 = .ok (.getfield 95, 3) := by decide +kernel
theorem dX3_beginReads_26 : decode cX3_beginReads 26 = .ok (.iconst 0, 1) := by decide +kernel
theorem dX3_beginReads_27 : decode cX3_beginReads 27 = .ok (.putfield 204, 3) := by decide +kernel
theorem dX3_beginReads_30 : decode cX3_beginReads 30 = .ok (.iconst 1, 1) := by decide +kernel
theorem dX3_beginReads_31 : decode cX3_beginReads 31 = .ok (.ireturn, 1) := by decide +kernel
theorem dX4_copy_0 : decode cX4_copy 0 = .ok (.aload_n 0, 1) := by decide +kernel
theorem dX4_copy_1 : decode cX4_copy 1 = .ok (.aload_n 1, 1) := by decide +kernel
theorem dX4_copy_2 : decode cX4_copy 2 = .ok (.getfield 18, 3) := by decide +kernel
theorem dX4_copy_5 : decode cX4_copy 5 = .ok (.putfield 18, 3) := by decide +kernel
theorem dX4_copy_8 : decode cX4_copy 8 = .ok (.aload_n 1, 1) := by decide +kernel
theorem dX4_copy_9 : decode cX4_copy 9 = .ok (.getfield 9, 3) := by decide +kernel
theorem dX4_copy_12 : decode cX4_copy 12 = .ok (.iconst 0, 1) := by decide +kernel
theorem dX4_copy_13 : decode cX4_copy 13 = .ok (.aload_n 0, 1) := by decide +kernel
theorem dX4_copy_14 : decode cX4_copy 14 = .ok (.getfield 9, 3) := by decide +kernel
theorem dX4_copy_17 : decode cX4_copy 17 = .ok (.iconst 0, 1) := by decide +kernel
theorem dX4_copy_18 : decode cX4_copy 18 = .ok (.aload_n 0, 1) := by decide +kernel
theorem dX4_copy_19 : decode cX4_copy 19 = .ok (.getfield 18, 3) := by decide +kernel
theorem dX4_copy_22 : decode cX4_copy 22 = .ok (.invokestatic 26, 3) := by decide +kernel
theorem dX4_copy_25 : decode cX4_copy 25 = .ok (.return_, 1) := by decide +kernel
theorem dX4_readWhole_0 : decode cX4_readWhole 0 = .ok (.aload_n 0, 1) := by decide +kernel
theorem dX4_readWhole_1 : decode cX4_readWhole 1 = .ok (.aload_n 1, 1) := by decide +kernel
theorem dX4_readWhole_2 : decode cX4_readWhole 2 = .ok (.iload_n 2, 1) := by decide +kernel
theorem dX4_readWhole_3 : decode cX4_readWhole 3 = .ok (.invokevirtual 32, 3) := by decide +kernel
theorem dX4_readWhole_6 : decode cX4_readWhole 6 = .ok (.ifCond .ne 5, 3) := by decide +kernel
theorem dX4_readWhole_9 : decode cX4_readWhole 9 = .ok (.iconst 0, 1) := by decide +kernel
theorem dX4_readWhole_10 : decode cX4_readWhole 10 = .ok (.ireturn, 1) := by decide +kernel
theorem dX4_readWhole_11 : decode cX4_readWhole 11 = .ok (.iconst 0, 1) := by decide +kernel
theorem dX4_readWhole_12 : decode cX4_readWhole 12 = .ok (.istore_n 3, 1) := by decide +kernel
theorem dX4_readWhole_13 : decode cX4_readWhole 13 = .ok (.iload_n 3, 1) := by decide +kernel
theorem dX4_readWhole_14 : decode cX4_readWhole 14 = .ok (.sipush 1000, 3) := by decide +kernel
theorem dX4_readWhole_17 : decode cX4_readWhole 17 = .ok (.if_icmp .ge 69, 3) := by decide +kernel
theorem dX4_readWhole_20 : decode cX4_readWhole 20 = .ok (.aload_n 1, 1) := by decide +kernel
theorem dX4_readWhole_21 : decode cX4_readWhole 21 = .ok (.getfield 36, 3) := by decide +kernel
theorem dX4_readWhole_24 : decode cX4_readWhole 24 = .ok (.getstatic 42, 3) := by decide +kernel
theorem dX4_readWhole_27 : decode cX4_readWhole 27 = .ok (.if_acmp .eq 13, 3) := by decide +kernel
theorem dX4_readWhole_30 : decode cX4_readWhole 30 = .ok (.aload_n 1, 1) := by decide +kernel
theorem dX4_readWhole_31 : decode cX4_readWhole 31 = .ok (.getfield 36, 3) := by decide +kernel
theorem dX4_readWhole_34 : decode cX4_readWhole 34 = .ok (.getstatic 47, 3) := by decide +kernel
theorem dX4_readWhole_37 : decode cX4_readWhole 37 = .ok (.if_acmp .ne 49, 3) := by decide +kernel
theorem dX4_readWhole_40 : decode cX4_readWhole 40 = .ok (.aload_n 1, 1) := by decide +kernel
theorem dX4_readWhole_41 : decode cX4_readWhole 41 = .ok (.getfield 36, 3) := by decide +kernel
theorem dX4_readWhole_44 : decode cX4_readWhole 44 = .ok (.getstatic 42, 3) := by decide +kernel
theorem dX4_readWhole_47 : decode cX4_readWhole 47 = .ok (.if_acmp .ne 8, 3) := by decide +kernel
theorem dX4_readWhole_50 : decode cX4_readWhole 50 = .ok (.bipush (-6), 2) := by decide +kernel
theorem dX4_readWhole_52 : decode cX4_readWhole 52 = .ok (.goto 5, 3) := by decide +kernel
theorem dX4_readWhole_55 : decode cX4_readWhole 55 = .ok (.bipush (-7), 2) := by decide +kernel
theorem dX4_readWhole_57 : decode cX4_readWhole 57 = .ok (.istore 4, 2) := by decide +kernel
theorem dX4_readWhole_59 : decode cX4_readWhole 59 = .ok (.aload_n 1, 1) := by decide +kernel
theorem dX4_readWhole_60 : decode cX4_readWhole 60 = .ok (.invokevirtual 50, 3) := by decide +kernel
theorem dX4_readWhole_63 : decode cX4_readWhole 63 = .ok (.aload_n 0, 1) := by decide +kernel
theorem dX4_readWhole_64 : decode cX4_readWhole 64 = .ok (.aload_n 1, 1) := by decide +kernel
theorem dX4_readWhole_65 : decode cX4_readWhole 65 = .ok (.iload_n 2, 1) := by decide +kernel
theorem dX4_readWhole_66 : decode cX4_readWhole 66 = .ok (.invokevirtual 32, 3) := by decide +kernel
theorem dX4_readWhole_69 : decode cX4_readWhole 69 = .ok (.ifCond .ne 5, 3) := by decide +kernel
theorem dX4_readWhole_72 : decode cX4_readWhole 72 = .ok (.iconst 0, 1) := by decide +kernel
theorem dX4_readWhole_73 : decode cX4_readWhole 73 = .ok (.ireturn, 1) := by decide +kernel
theorem dX4_readWhole_74 : decode cX4_readWhole 74 = .ok (.aload_n 0, 1) := by decide +kernel
theorem dX4_readWhole_75 : decode cX4_readWhole 75 = .ok (.iload 4, 2) := by decide +kernel
theorem dX4_readWhole_77 : decode cX4_readWhole 77 = .ok (.invokevirtual 22, 3) := by decide +kernel
theorem dX4_readWhole_80 : decode cX4_readWhole 80 = .ok (.iinc 3 1, 3) := by decide +kernel
theorem dX4_readWhole_83 : decode cX4_readWhole 83 = .ok (.goto (-70), 3) := by decide +kernel
theorem dX4_readWhole_86 : decode cX4_readWhole 86 = .ok (.iconst 1, 1) := by decide +kernel
theorem dX4_readWhole_87 : decode cX4_readWhole 87 = .ok (.ireturn, 1) := by decide +kernel
theorem dX4_readTest_0 : decode cX4_readTest 0 = .ok (.aload_n 0, 1) := by decide +kernel
theorem dX4_readTest_1 : decode cX4_readTest 1 = .ok (.aload_n 1, 1) := by decide +kernel
theorem dX4_readTest_2 : decode cX4_readTest 2 = .ok (.iload_n 2, 1) := by decide +kernel
theorem dX4_readTest_3 : decode cX4_readTest 3 = .ok (.invokevirtual 53, 3) := by decide +kernel
theorem dX4_readTest_6 : decode cX4_readTest 6 = .ok (.ifCond .ne 5, 3) := by decide +kernel
theorem dX4_readTest_9 : decode cX4_readTest 9 = .ok (.iconst 0, 1) := by decide +kernel
theorem dX4_readTest_10 : decode cX4_readTest 10 = .ok (.ireturn, 1) := by decide +kernel
theorem dX4_readTest_11 : decode cX4_readTest 11 = .ok (.aload_n 1, 1) := by decide +kernel
theorem dX4_readTest_12 : decode cX4_readTest 12 = .ok (.getfield 36, 3) := by decide +kernel
theorem dX4_readTest_15 : decode cX4_readTest 15 = .ok (.getstatic 56, 3) := by decide +kernel
theorem dX4_readTest_18 : decode cX4_readTest 18 = .ok (.if_acmp .eq 15, 3) := by decide +kernel
theorem dX4_readTest_21 : decode cX4_readTest 21 = .ok (.aload_n 1, 1) := by decide +kernel
theorem dX4_readTest_22 : decode cX4_readTest 22 = .ok (.getfield 36, 3) := by decide +kernel
theorem dX4_readTest_25 : decode cX4_readTest 25 = .ok (.getstatic 59, 3) := by decide +kernel
theorem dX4_readTest_28 : decode cX4_readTest 28 = .ok (.if_acmp .eq 5, 3) := by decide +kernel
theorem dX4_readTest_31 : decode cX4_readTest 31 = .ok (.iconst 1, 1) := by decide +kernel
theorem dX4_readTest_32 : decode cX4_readTest 32 = .ok (.ireturn, 1) := by decide +kernel
theorem dX4_readTest_33 : decode cX4_readTest 33 = .ok (.aload_n 1, 1) := by decide +kernel
theorem dX4_readTest_34 : decode cX4_readTest 34 = .ok (.getfield 36, 3) := by decide +kernel
theorem dX4_readTest_37 : decode cX4_readTest 37 = .ok (.getstatic 56, 3) := by decide +kernel
theorem dX4_readTest_40 : decode cX4_readTest 40 = .ok (.if_acmp .ne 8, 3) := by decide +kernel
theorem dX4_readTest_43 : decode cX4_readTest 43 = .ok (.bipush (-8), 2) := by decide +kernel
theorem dX4_readTest_45 : decode cX4_readTest 45 = .ok (.goto 5, 3) := by decide +kernel
theorem dX4_readTest_48 : decode cX4_readTest 48 = .ok (.bipush (-9), 2) := by decide +kernel
theorem dX4_readTest_50 : decode cX4_readTest 50 = .ok (.istore_n 3, 1) := by decide +kernel
theorem dX4_readTest_51 : decode cX4_readTest 51 = .ok (.aload_n 1, 1) := by decide +kernel
theorem dX4_readTest_52 : decode cX4_readTest 52 = .ok (.invokevirtual 50, 3) := by decide +kernel
theorem dX4_readTest_55 : decode cX4_readTest 55 = .ok (.aload_n 0, 1) := by decide +kernel
theorem dX4_readTest_56 : decode cX4_readTest 56 = .ok (.aload_n 1, 1) := by decide +kernel
theorem dX4_readTest_57 : decode cX4_readTest 57 = .ok (.iload_n 2, 1) := by decide +kernel
theorem dX4_readTest_58 : decode cX4_readTest 58 = .ok (.invokevirtual 53, 3) := by decide +kernel
theorem dX4_readTest_61 : decode cX4_readTest 61 = .ok (.ifCond .ne 5, 3) := by decide +kernel
theorem dX4_readTest_64 : decode cX4_readTest 64 = .ok (.iconst 0, 1) := by decide +kernel
theorem dX4_readTest_65 : decode cX4_readTest 65 = .ok (.ireturn, 1) := by decide +kernel
theorem dX4_readTest_66 : decode cX4_readTest 66 = .ok (.aload_n 0, 1) := by decide +kernel
theorem dX4_readTest_67 : decode cX4_readTest 67 = .ok (.iload_n 3, 1) := by decide +kernel
theorem dX4_readTest_68 : decode cX4_readTest 68 = .ok (.invokevirtual 22, 3) := by decide +kernel
theorem dX4_readTest_71 : decode cX4_readTest 71 = .ok (.iconst 1, 1) := by decide +kernel
theorem dX4_readTest_72 : decode cX4_readTest 72 = .ok (.ireturn, 1) := by decide +kernel
theorem dX4_readSum_0 : decode cX4_readSum 0 = .ok (.aload_n 0, 1) := by decide +kernel
theorem dX4_readSum_1 : decode cX4_readSum 1 = .ok (.aload_n 1, 1) := by decide +kernel
theorem dX4_readSum_2 : decode cX4_readSum 2 = .ok (.iload_n 2, 1) := by decide +kernel
theorem dX4_readSum_3 : decode cX4_readSum 3 = .ok (.invokevirtual 62, 3) := by decide +kernel
theorem dX4_readSum_6 : decode cX4_readSum 6 = .ok (.ifCond .ne 5, 3) := by decide +kernel
theorem dX4_readSum_9 : decode cX4_readSum 9 = .ok (.iconst 0, 1) := by decide +kernel
theorem dX4_readSum_10 : decode cX4_readSum 10 = .ok (.ireturn, 1) := by decide +kernel
theorem dX4_readSum_11 : decode cX4_readSum 11 = .ok (.iconst 0, 1) := by decide +kernel
theorem dX4_readSum_12 : decode cX4_readSum 12 = .ok (.istore_n 3, 1) := by decide +kernel
theorem dX4_readSum_13 : decode cX4_readSum 13 = .ok (.iload_n 3, 1) := by decide +kernel
theorem dX4_readSum_14 : decode cX4_readSum 14 = .ok (.sipush 1000, 3) := by decide +kernel
theorem dX4_readSum_17 : decode cX4_readSum 17 = .ok (.if_icmp .ge 69, 3) := by decide +kernel
theorem dX4_readSum_20 : decode cX4_readSum 20 = .ok (.aload_n 1, 1) := by decide +kernel
theorem dX4_readSum_21 : decode cX4_readSum 21 = .ok (.getfield 36, 3) := by decide +kernel
theorem dX4_readSum_24 : decode cX4_readSum 24 = .ok (.getstatic 65, 3) := by decide +kernel
theorem dX4_readSum_27 : decode cX4_readSum 27 = .ok (.if_acmp .eq 13, 3) := by decide +kernel
theorem dX4_readSum_30 : decode cX4_readSum 30 = .ok (.aload_n 1, 1) := by decide +kernel
theorem dX4_readSum_31 : decode cX4_readSum 31 = .ok (.getfield 36, 3) := by decide +kernel
theorem dX4_readSum_34 : decode cX4_readSum 34 = .ok (.getstatic 68, 3) := by decide +kernel
theorem dX4_readSum_37 : decode cX4_readSum 37 = .ok (.if_acmp .ne 49, 3) := by decide +kernel
theorem dX4_readSum_40 : decode cX4_readSum 40 = .ok (.aload_n 1, 1) := by decide +kernel
theorem dX4_readSum_41 : decode cX4_readSum 41 = .ok (.getfield 36, 3) := by decide +kernel
theorem dX4_readSum_44 : decode cX4_readSum 44 = .ok (.getstatic 65, 3) := by decide +kernel
