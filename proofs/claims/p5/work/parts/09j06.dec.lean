theorem dX10_wander_30 : decode cX10_wander 30 = .ok (.iload_n 2, 1) := by decide +kernel
theorem dX10_wander_31 : decode cX10_wander 31 = .ok (.aload_n 0, 1) := by decide +kernel
theorem dX10_wander_32 : decode cX10_wander 32 = .ok (.iload_n 2, 1) := by decide +kernel
theorem dX10_wander_33 : decode cX10_wander 33 = .ok (.invokevirtual 73, 3) := by decide +kernel
theorem dX10_wander_36 : decode cX10_wander 36 = .ok (.iload_n 1, 1) := by decide +kernel
theorem dX10_wander_37 : decode cX10_wander 37 = .ok (.iand, 1) := by decide +kernel
theorem dX10_wander_38 : decode cX10_wander 38 = .ok (.ior, 1) := by decide +kernel
theorem dX10_wander_39 : decode cX10_wander 39 = .ok (.istore_n 2, 1) := by decide +kernel
theorem dX10_wander_40 : decode cX10_wander 40 = .ok (.iinc 3 1, 3) := by decide +kernel
theorem dX10_wander_43 : decode cX10_wander 43 = .ok (.goto (-24), 3) := by decide +kernel
theorem dX10_wander_46 : decode cX10_wander 46 = .ok (.aload_n 0, 1) := by decide +kernel
theorem dX10_wander_47 : decode cX10_wander 47 = .ok (.getfield 18, 3) := by decide +kernel
theorem dX10_wander_50 : decode cX10_wander 50 = .ok (.iload_n 1, 1) := by decide +kernel
theorem dX10_wander_51 : decode cX10_wander 51 = .ok (.iload_n 2, 1) := by decide +kernel
theorem dX10_wander_52 : decode cX10_wander 52 = .ok (.iastore, 1) := by decide +kernel
theorem dX10_wander_53 : decode cX10_wander 53 = .ok (.aload_n 0, 1) := by decide +kernel
theorem dX10_wander_54 : decode cX10_wander 54 = .ok (.iload_n 2, 1) := by decide +kernel
theorem dX10_wander_55 : decode cX10_wander 55 = .ok (.invokevirtual 73, 3) := by decide +kernel
theorem dX10_wander_58 : decode cX10_wander 58 = .ok (.iload_n 1, 1) := by decide +kernel
theorem dX10_wander_59 : decode cX10_wander 59 = .ok (.iconst (-1), 1) := by decide +kernel
theorem dX10_wander_60 : decode cX10_wander 60 = .ok (.ixor, 1) := by decide +kernel
theorem dX10_wander_61 : decode cX10_wander 61 = .ok (.iand, 1) := by decide +kernel
theorem dX10_wander_62 : decode cX10_wander 62 = .ok (.istore_n 3, 1) := by decide +kernel
theorem dX10_wander_63 : decode cX10_wander 63 = .ok (.iconst 0, 1) := by decide +kernel
theorem dX10_wander_64 : decode cX10_wander 64 = .ok (.istore 4, 2) := by decide +kernel
theorem dX10_wander_66 : decode cX10_wander 66 = .ok (.iload 4, 2) := by decide +kernel
theorem dX10_wander_68 : decode cX10_wander 68 = .ok (.aload_n 0, 1) := by decide +kernel
theorem dX10_wander_69 : decode cX10_wander 69 = .ok (.getfield 31, 3) := by decide +kernel
theorem dX10_wander_72 : decode cX10_wander 72 = .ok (.getfield 56, 3) := by decide +kernel
theorem dX10_wander_75 : decode cX10_wander 75 = .ok (.if_icmp .ge 36, 3) := by decide +kernel
theorem dX10_wander_78 : decode cX10_wander 78 = .ok (.iload_n 3, 1) := by decide +kernel
theorem dX10_wander_79 : decode cX10_wander 79 = .ok (.iload 4, 2) := by decide +kernel
theorem dX10_wander_81 : decode cX10_wander 81 = .ok (.invokestatic 69, 3) := by decide +kernel
theorem dX10_wander_84 : decode cX10_wander 84 = .ok (.ifCond .eq 21, 3) := by decide +kernel
theorem dX10_wander_87 : decode cX10_wander 87 = .ok (.aload_n 0, 1) := by decide +kernel
theorem dX10_wander_88 : decode cX10_wander 88 = .ok (.getfield 18, 3) := by decide +kernel
theorem dX10_wander_91 : decode cX10_wander 91 = .ok (.iload_n 1, 1) := by decide +kernel
theorem dX10_wander_92 : decode cX10_wander 92 = .ok (.iconst 1, 1) := by decide +kernel
theorem dX10_wander_93 : decode cX10_wander 93 = .ok (.iload 4, 2) := by decide +kernel
theorem dX10_wander_95 : decode cX10_wander 95 = .ok (.ishl, 1) := by decide +kernel
theorem dX10_wander_96 : decode cX10_wander 96 = .ok (.ior, 1) := by decide +kernel
theorem dX10_wander_97 : decode cX10_wander 97 = .ok (.dup2, 1) := by decide +kernel
theorem dX10_wander_98 : decode cX10_wander 98 = .ok (.iaload, 1) := by decide +kernel
theorem dX10_wander_99 : decode cX10_wander 99 = .ok (.iconst 1, 1) := by decide +kernel
theorem dX10_wander_100 : decode cX10_wander 100 = .ok (.iload 4, 2) := by decide +kernel
theorem dX10_wander_102 : decode cX10_wander 102 = .ok (.ishl, 1) := by decide +kernel
theorem dX10_wander_103 : decode cX10_wander 103 = .ok (.ior, 1) := by decide +kernel
theorem dX10_wander_104 : decode cX10_wander 104 = .ok (.iastore, 1) := by decide +kernel
theorem dX10_wander_105 : decode cX10_wander 105 = .ok (.iinc 4 1, 3) := by decide +kernel
theorem dX10_wander_108 : decode cX10_wander 108 = .ok (.goto (-42), 3) := by decide +kernel
theorem dX10_wander_111 : decode cX10_wander 111 = .ok (.return_, 1) := by decide +kernel
theorem dX11_feed_0 : decode cX11_feed 0 = .ok (.aload_n 0, 1) := by decide +kernel
theorem dX11_feed_1 : decode cX11_feed 1 = .ok (.getfield 10, 3) := by decide +kernel
theorem dX11_feed_4 : decode cX11_feed 4 = .ok (.lload_n 1, 1) := by decide +kernel
theorem dX11_feed_5 : decode cX11_feed 5 = .ok (.invokevirtual 96, 3) := by decide +kernel
theorem dX11_feed_8 : decode cX11_feed 8 = .ok (.aload_n 0, 1) := by decide +kernel
theorem dX11_feed_9 : decode cX11_feed 9 = .ok (.getfield 10, 3) := by decide +kernel
theorem dX11_feed_12 : decode cX11_feed 12 = .ok (.lload_n 3, 1) := by decide +kernel
theorem dX11_feed_13 : decode cX11_feed 13 = .ok (.invokevirtual 96, 3) := by decide +kernel
theorem dX11_feed_16 : decode cX11_feed 16 = .ok (.aload_n 0, 1) := by decide +kernel
theorem dX11_feed_17 : decode cX11_feed 17 = .ok (.getfield 10, 3) := by decide +kernel
theorem dX11_feed_20 : decode cX11_feed 20 = .ok (.lload 5, 2) := by decide +kernel
theorem dX11_feed_22 : decode cX11_feed 22 = .ok (.invokevirtual 96, 3) := by decide +kernel
theorem dX11_feed_25 : decode cX11_feed 25 = .ok (.aload_n 0, 1) := by decide +kernel
theorem dX11_feed_26 : decode cX11_feed 26 = .ok (.getfield 10, 3) := by decide +kernel
theorem dX11_feed_29 : decode cX11_feed 29 = .ok (.getfield 100, 3) := by decide +kernel
theorem dX11_feed_32 : decode cX11_feed 32 = .ok (.ireturn, 1) := by decide +kernel
theorem dX11_land_0 : decode cX11_land 0 = .ok (.aload_n 0, 1) := by decide +kernel
theorem dX11_land_1 : decode cX11_land 1 = .ok (.getfield 29, 3) := by decide +kernel
theorem dX11_land_4 : decode cX11_land 4 = .ok (.aload_n 0, 1) := by decide +kernel
theorem dX11_land_5 : decode cX11_land 5 = .ok (.getfield 10, 3) := by decide +kernel
theorem dX11_land_8 : decode cX11_land 8 = .ok (.aload_n 0, 1) := by decide +kernel
theorem dX11_land_9 : decode cX11_land 9 = .ok (.getfield 23, 3) := by decide +kernel
theorem dX11_land_12 : decode cX11_land 12 = .ok (.invokevirtual 103, 3) := by decide +kernel
theorem dX11_land_15 : decode cX11_land 15 = .ok (.istore_n 1, 1) := by decide +kernel
theorem dX11_land_16 : decode cX11_land 16 = .ok (.aload_n 0, 1) := by decide +kernel
theorem dX11_land_17 : decode cX11_land 17 = .ok (.getfield 10, 3) := by decide +kernel
theorem dX11_land_20 : decode cX11_land 20 = .ok (.iconst 0, 1) := by decide +kernel
theorem dX11_land_21 : decode cX11_land 21 = .ok (.putfield 100, 3) := by decide +kernel
theorem dX11_land_24 : decode cX11_land 24 = .ok (.iload_n 1, 1) := by decide +kernel
theorem dX11_land_25 : decode cX11_land 25 = .ok (.ifCond .ne 11, 3) := by decide +kernel
theorem dX11_land_28 : decode cX11_land 28 = .ok (.aload_n 0, 1) := by decide +kernel
theorem dX11_land_29 : decode cX11_land 29 = .ok (.getfield 10, 3) := by decide +kernel
theorem dX11_land_32 : decode cX11_land 32 = .ok (.getfield 107, 3) := by decide +kernel
theorem dX11_land_35 : decode cX11_land 35 = .ok (.ireturn, 1) := by decide +kernel
theorem dX11_land_36 : decode cX11_land 36 = .ok (.aload_n 0, 1) := by decide +kernel
theorem dX11_land_37 : decode cX11_land 37 = .ok (.getfield 19, 3) := by decide +kernel
theorem dX11_land_40 : decode cX11_land 40 = .ok (.aload_n 0, 1) := by decide +kernel
theorem dX11_land_41 : decode cX11_land 41 = .ok (.getfield 23, 3) := by decide +kernel
theorem dX11_land_44 : decode cX11_land 44 = .ok (.invokevirtual 110, 3) := by decide +kernel
theorem dX11_land_47 : decode cX11_land 47 = .ok (.aload_n 0, 1) := by decide +kernel
theorem dX11_land_48 : decode cX11_land 48 = .ok (.getfield 64, 3) := by decide +kernel
theorem dX11_land_51 : decode cX11_land 51 = .ok (.aload_n 0, 1) := by decide +kernel
theorem dX11_land_52 : decode cX11_land 52 = .ok (.getfield 19, 3) := by decide +kernel
theorem dX11_land_55 : decode cX11_land 55 = .ok (.invokevirtual 113, 3) := by decide +kernel
theorem dX11_land_58 : decode cX11_land 58 = .ok (.aload_n 0, 1) := by decide +kernel
theorem dX11_land_59 : decode cX11_land 59 = .ok (.getfield 36, 3) := by decide +kernel
theorem dX11_land_62 : decode cX11_land 62 = .ok (.iconst 0, 1) := by decide +kernel
theorem dX11_land_63 : decode cX11_land 63 = .ok (.putfield 116, 3) := by decide +kernel
theorem dX11_land_66 : decode cX11_land 66 = .ok (.aload_n 0, 1) := by decide +kernel
theorem dX11_land_67 : decode cX11_land 67 = .ok (.getfield 74, 3) := by decide +kernel
theorem dX11_land_70 : decode cX11_land 70 = .ok (.invokevirtual 119, 3) := by decide +kernel
theorem dX11_land_73 : decode cX11_land 73 = .ok (.aload_n 0, 1) := by decide +kernel
theorem dX11_land_74 : decode cX11_land 74 = .ok (.invokevirtual 122, 3) := by decide +kernel
theorem dX11_land_77 : decode cX11_land 77 = .ok (.iconst 0, 1) := by decide +kernel
theorem dX11_land_78 : decode cX11_land 78 = .ok (.istore_n 2, 1) := by decide +kernel
theorem dX11_land_79 : decode cX11_land 79 = .ok (.iload_n 2, 1) := by decide +kernel
theorem dX11_land_80 : decode cX11_land 80 = .ok (.iconst 4, 1) := by decide +kernel
theorem dX11_land_81 : decode cX11_land 81 = .ok (.if_icmp .ge 19, 3) := by decide +kernel
theorem dX11_land_84 : decode cX11_land 84 = .ok (.aload_n 0, 1) := by decide +kernel
theorem dX11_land_85 : decode cX11_land 85 = .ok (.getfield 84, 3) := by decide +kernel
theorem dX11_land_88 : decode cX11_land 88 = .ok (.iload_n 2, 1) := by decide +kernel
theorem dX11_land_89 : decode cX11_land 89 = .ok (.aaload, 1) := by decide +kernel
theorem dX11_land_90 : decode cX11_land 90 = .ok (.iconst 0, 1) := by decide +kernel
theorem dX11_land_91 : decode cX11_land 91 = .ok (.putfield 125, 3) := by decide +kernel
theorem dX11_land_94 : decode cX11_land 94 = .ok (.iinc 2 1, 3) := by decide +kernel
theorem dX11_land_97 : decode cX11_land 97 = .ok (.goto (-18), 3) := by decide +kernel
theorem dX11_land_100 : decode cX11_land 100 = .ok (.iconst 0, 1) := by decide +kernel
theorem dX11_land_101 : decode cX11_land 101 = .ok (.ireturn, 1) := by decide +kernel
theorem dX11_journey_0 : decode cX11_journey 0 = .ok (.aload_n 0, 1) := by decide +kernel
theorem dX11_journey_1 : decode cX11_journey 1 = .ok (.getfield 40, 3) := by decide +kernel
theorem dX11_journey_4 : decode cX11_journey 4 = .ok (.aload_n 0, 1) := by decide +kernel
theorem dX11_journey_5 : decode cX11_journey 5 = .ok (.getfield 10, 3) := by decide +kernel
theorem dX11_journey_8 : decode cX11_journey 8 = .ok (.aload_n 0, 1) := by decide +kernel
theorem dX11_journey_9 : decode cX11_journey 9 = .ok (.getfield 19, 3) := by decide +kernel
theorem dX11_journey_12 : decode cX11_journey 12 = .ok (.invokevirtual 129, 3) := by decide +kernel
theorem dX11_journey_15 : decode cX11_journey 15 = .ok (.istore_n 1, 1) := by decide +kernel
theorem dX11_journey_16 : decode cX11_journey 16 = .ok (.aload_n 0, 1) := by decide +kernel
theorem dX11_journey_17 : decode cX11_journey 17 = .ok (.getfield 10, 3) := by decide +kernel
theorem dX11_journey_20 : decode cX11_journey 20 = .ok (.iconst 0, 1) := by decide +kernel
theorem dX11_journey_21 : decode cX11_journey 21 = .ok (.putfield 100, 3) := by decide +kernel
theorem dX11_journey_24 : decode cX11_journey 24 = .ok (.iload_n 1, 1) := by decide +kernel
theorem dX11_journey_25 : decode cX11_journey 25 = .ok (.ifCond .ne 11, 3) := by decide +kernel
theorem dX11_journey_28 : decode cX11_journey 28 = .ok (.aload_n 0, 1) := by decide +kernel
theorem dX11_journey_29 : decode cX11_journey 29 = .ok (.getfield 10, 3) := by decide +kernel
theorem dX11_journey_32 : decode cX11_journey 32 = .ok (.getfield 107, 3) := by decide +kernel
theorem dX11_journey_35 : decode cX11_journey 35 = .ok (.ireturn, 1) := by decide +kernel
theorem dX11_journey_36 : decode cX11_journey 36 = .ok (.aload_n 0, 1) := by decide +kernel
theorem dX11_journey_37 : decode cX11_journey 37 = .ok (.getfield 36, 3) := by decide +kernel
theorem dX11_journey_40 : decode cX11_journey 40 = .ok (.aload_n 0, 1) := by decide +kernel
theorem dX11_journey_41 : decode cX11_journey 41 = .ok (.getfield 40, 3) := by decide +kernel
theorem dX11_journey_44 : decode cX11_journey 44 = .ok (.invokevirtual 130, 3) := by decide +kernel
theorem dX11_journey_47 : decode cX11_journey 47 = .ok (.iconst 0, 1) := by decide +kernel
theorem dX11_journey_48 : decode cX11_journey 48 = .ok (.ireturn, 1) := by decide +kernel
theorem dX11_person_0 : decode cX11_person 0 = .ok (.aload_n 0, 1) := by decide +kernel
theorem dX11_person_1 : decode cX11_person 1 = .ok (.iload_n 1, 1) := by decide +kernel
theorem dX11_person_2 : decode cX11_person 2 = .ok (.invokevirtual 133, 3) := by decide +kernel
theorem dX11_person_5 : decode cX11_person 5 = .ok (.ifCond .ne 5, 3) := by decide +kernel
theorem dX11_person_8 : decode cX11_person 8 = .ok (.iconst (-1), 1) := by decide +kernel
theorem dX11_person_9 : decode cX11_person 9 = .ok (.ireturn, 1) := by decide +kernel
theorem dX11_person_10 : decode cX11_person 10 = .ok (.iload_n 2, 1) := by decide +kernel
theorem dX11_person_11 : decode cX11_person 11 = .ok (.tableswitch 107 0 5 #[37, 47, 57, 77, 87, 97], 37) := by decide +kernel
theorem dX11_person_48 : decode cX11_person 48 = .ok (.aload_n 0, 1) := by decide +kernel
theorem dX11_person_49 : decode cX11_person 49 = .ok (.getfield 19, 3) := by decide +kernel
theorem dX11_person_52 : decode cX11_person 52 = .ok (.getfield 137, 3) := by decide +kernel
theorem dX11_person_55 : decode cX11_person 55 = .ok (.iload_n 1, 1) := by decide +kernel
theorem dX11_person_56 : decode cX11_person 56 = .ok (.iaload, 1) := by decide +kernel
theorem dX11_person_57 : decode cX11_person 57 = .ok (.ireturn, 1) := by decide +kernel
theorem dX11_person_58 : decode cX11_person 58 = .ok (.aload_n 0, 1) := by decide +kernel
theorem dX11_person_59 : decode cX11_person 59 = .ok (.getfield 64, 3) := by decide +kernel
theorem dX11_person_62 : decode cX11_person 62 = .ok (.getfield 141, 3) := by decide +kernel
theorem dX11_person_65 : decode cX11_person 65 = .ok (.iload_n 1, 1) := by decide +kernel
theorem dX11_person_66 : decode cX11_person 66 = .ok (.iaload, 1) := by decide +kernel
theorem dX11_person_67 : decode cX11_person 67 = .ok (.ireturn, 1) := by decide +kernel
theorem dX11_person_68 : decode cX11_person 68 = .ok (.aload_n 0, 1) := by decide +kernel
theorem dX11_person_69 : decode cX11_person 69 = .ok (.getfield 64, 3) := by decide +kernel
theorem dX11_person_72 : decode cX11_person 72 = .ok (.getfield 144, 3) := by decide +kernel
theorem dX11_person_75 : decode cX11_person 75 = .ok (.iload_n 1, 1) := by decide +kernel
theorem dX11_person_76 : decode cX11_person 76 = .ok (.iaload, 1) := by decide +kernel
theorem dX11_person_77 : decode cX11_person 77 = .ok (.aload_n 0, 1) := by decide +kernel
theorem dX11_person_78 : decode cX11_person 78 = .ok (.getfield 64, 3) := by decide +kernel
theorem dX11_person_81 : decode cX11_person 81 = .ok (.getfield 147, 3) := by decide +kernel
theorem dX11_person_84 : decode cX11_person 84 = .ok (.iload_n 1, 1) := by decide +kernel
theorem dX11_person_85 : decode cX11_person 85 = .ok (.iaload, 1) := by decide +kernel
theorem dX11_person_86 : decode cX11_person 86 = .ok (.iadd, 1) := by decide +kernel
theorem dX11_person_87 : decode cX11_person 87 = .ok (.ireturn, 1) := by decide +kernel
theorem dX11_person_88 : decode cX11_person 88 = .ok (.aload_n 0, 1) := by decide +kernel
theorem dX11_person_89 : decode cX11_person 89 = .ok (.getfield 64, 3) := by decide +kernel
theorem dX11_person_92 : decode cX11_person 92 = .ok (.getfield 147, 3) := by decide +kernel
theorem dX11_person_95 : decode cX11_person 95 = .ok (.iload_n 1, 1) := by decide +kernel
theorem dX11_person_96 : decode cX11_person 96 = .ok (.iaload, 1) := by decide +kernel
theorem dX11_person_97 : decode cX11_person 97 = .ok (.ireturn, 1) := by decide +kernel
theorem dX11_person_98 : decode cX11_person 98 = .ok (.aload_n 0, 1) := by decide +kernel
theorem dX11_person_99 : decode cX11_person 99 = .ok (.getfield 64, 3) := by decide +kernel
theorem dX11_person_102 : decode cX11_person 102 = .ok (.getfield 150, 3) := by decide +kernel
theorem dX11_person_105 : decode cX11_person 105 = .ok (.iload_n 1, 1) := by decide +kernel
theorem dX11_person_106 : decode cX11_person 106 = .ok (.iaload, 1) := by decide +kernel
theorem dX11_person_107 : decode cX11_person 107 = .ok (.ireturn, 1) := by decide +kernel
theorem dX11_person_108 : decode cX11_person 108 = .ok (.aload_n 0, 1) := by decide +kernel
theorem dX11_person_109 : decode cX11_person 109 = .ok (.getfield 64, 3) := by decide +kernel
theorem dX11_person_112 : decode cX11_person 112 = .ok (.getfield 153, 3) := by decide +kernel
theorem dX11_person_115 : decode cX11_person 115 = .ok (.iload_n 1, 1) := by decide +kernel
theorem dX11_person_116 : decode cX11_person 116 = .ok (.iaload, 1) := by decide +kernel
theorem dX11_person_117 : decode cX11_person 117 = .ok (.ireturn, 1) := by decide +kernel
theorem dX11_person_118 : decode cX11_person 118 = .ok (.iconst (-1), 1) := by decide +kernel
theorem dX11_person_119 : decode cX11_person 119 = .ok (.ireturn, 1) := by decide +kernel
theorem dX11_town_0 : decode cX11_town 0 = .ok (.aload_n 0, 1) := by decide +kernel
theorem dX11_town_1 : decode cX11_town 1 = .ok (.iload_n 1, 1) := by decide +kernel
theorem dX11_town_2 : decode cX11_town 2 = .ok (.invokevirtual 156, 3) := by decide +kernel
theorem dX11_town_5 : decode cX11_town 5 = .ok (.ifCond .ne 5, 3) := by decide +kernel
theorem dX11_town_8 : decode cX11_town 8 = .ok (.iconst (-1), 1) := by decide +kernel
theorem dX11_town_9 : decode cX11_town 9 = .ok (.ireturn, 1) := by decide +kernel
theorem dX11_town_10 : decode cX11_town 10 = .ok (.iload_n 2, 1) := by decide +kernel
theorem dX11_town_11 : decode cX11_town 11 = .ok (.tableswitch 58 0 2 #[25, 35, 45], 25) := by decide +kernel
theorem dX11_town_36 : decode cX11_town 36 = .ok (.aload_n 0, 1) := by decide +kernel
theorem dX11_town_37 : decode cX11_town 37 = .ok (.getfield 19, 3) := by decide +kernel
theorem dX11_town_40 : decode cX11_town 40 = .ok (.getfield 159, 3) := by decide +kernel
theorem dX11_town_43 : decode cX11_town 43 = .ok (.iload_n 1, 1) := by decide +kernel
theorem dX11_town_44 : decode cX11_town 44 = .ok (.iaload, 1) := by decide +kernel
theorem dX11_town_45 : decode cX11_town 45 = .ok (.ireturn, 1) := by decide +kernel
theorem dX11_town_46 : decode cX11_town 46 = .ok (.aload_n 0, 1) := by decide +kernel
theorem dX11_town_47 : decode cX11_town 47 = .ok (.getfield 19, 3) := by decide +kernel
theorem dX11_town_50 : decode cX11_town 50 = .ok (.getfield 162, 3) := by decide +kernel
theorem dX11_town_53 : decode cX11_town 53 = .ok (.iload_n 1, 1) := by decide +kernel
theorem dX11_town_54 : decode cX11_town 54 = .ok (.iaload, 1) := by decide +kernel
theorem dX11_town_55 : decode cX11_town 55 = .ok (.ireturn, 1) := by decide +kernel
theorem dX11_town_56 : decode cX11_town 56 = .ok (.aload_n 0, 1) := by decide +kernel
theorem dX11_town_57 : decode cX11_town 57 = .ok (.getfield 48, 3) := by decide +kernel
theorem dX11_town_60 : decode cX11_town 60 = .ok (.aload_n 0, 1) := by decide +kernel
theorem dX11_town_61 : decode cX11_town 61 = .ok (.getfield 64, 3) := by decide +kernel
theorem dX11_town_64 : decode cX11_town 64 = .ok (.iload_n 1, 1) := by decide +kernel
theorem dX11_town_65 : decode cX11_town 65 = .ok (.invokevirtual 165, 3) := by decide +kernel
theorem dX11_town_68 : decode cX11_town 68 = .ok (.ireturn, 1) := by decide +kernel
theorem dX11_town_69 : decode cX11_town 69 = .ok (.iconst (-1), 1) := by decide +kernel
theorem dX11_town_70 : decode cX11_town 70 = .ok (.ireturn, 1) := by decide +kernel
theorem dX11_count_0 : decode cX11_count 0 = .ok (.iload_n 1, 1) := by decide +kernel
theorem dX11_count_1 : decode cX11_count 1 = .ok (.tableswitch 171 0 11 #[63, 71, 79, 87, 95, 103, 118, 130, 142, 150, 158, 163], 63) := by decide +kernel
theorem dX11_count_64 : decode cX11_count 64 = .ok (.aload_n 0, 1) := by decide +kernel
theorem dX11_count_65 : decode cX11_count 65 = .ok (.getfield 19, 3) := by decide +kernel
theorem dX11_count_68 : decode cX11_count 68 = .ok (.getfield 169, 3) := by decide +kernel
theorem dX11_count_71 : decode cX11_count 71 = .ok (.ireturn, 1) := by decide +kernel
theorem dX11_count_72 : decode cX11_count 72 = .ok (.aload_n 0, 1) := by decide +kernel
theorem dX11_count_73 : decode cX11_count 73 = .ok (.getfield 19, 3) := by decide +kernel
theorem dX11_count_76 : decode cX11_count 76 = .ok (.getfield 172, 3) := by decide +kernel
theorem dX11_count_79 : decode cX11_count 79 = .ok (.ireturn, 1) := by decide +kernel
theorem dX11_count_80 : decode cX11_count 80 = .ok (.aload_n 0, 1) := by decide +kernel
theorem dX11_count_81 : decode cX11_count 81 = .ok (.getfield 19, 3) := by decide +kernel
theorem dX11_count_84 : decode cX11_count 84 = .ok (.getfield 175, 3) := by decide +kernel
theorem dX11_count_87 : decode cX11_count 87 = .ok (.ireturn, 1) := by decide +kernel
theorem dX11_count_88 : decode cX11_count 88 = .ok (.aload_n 0, 1) := by decide +kernel
theorem dX11_count_89 : decode cX11_count 89 = .ok (.getfield 19, 3) := by decide +kernel
theorem dX11_count_92 : decode cX11_count 92 = .ok (.getfield 178, 3) := by decide +kernel
theorem dX11_count_95 : decode cX11_count 95 = .ok (.ireturn, 1) := by decide +kernel
theorem dX11_count_96 : decode cX11_count 96 = .ok (.aload_n 0, 1) := by decide +kernel
theorem dX11_count_97 : decode cX11_count 97 = .ok (.getfield 64, 3) := by decide +kernel
theorem dX11_count_100 : decode cX11_count 100 = .ok (.getfield 181, 3) := by decide +kernel
theorem dX11_count_103 : decode cX11_count 103 = .ok (.ireturn, 1) := by decide +kernel
theorem dX11_count_104 : decode cX11_count 104 = .ok (.aload_n 0, 1) := by decide +kernel
theorem dX11_count_105 : decode cX11_count 105 = .ok (.getfield 64, 3) := by decide +kernel
theorem dX11_count_108 : decode cX11_count 108 = .ok (.aload_n 0, 1) := by decide +kernel
theorem dX11_count_109 : decode cX11_count 109 = .ok (.getfield 19, 3) := by decide +kernel
theorem dX11_count_112 : decode cX11_count 112 = .ok (.getfield 172, 3) := by decide +kernel
theorem dX11_count_115 : decode cX11_count 115 = .ok (.invokevirtual 184, 3) := by decide +kernel
theorem dX11_count_118 : decode cX11_count 118 = .ok (.ireturn, 1) := by decide +kernel
theorem dX11_count_119 : decode cX11_count 119 = .ok (.aload_n 0, 1) := by decide +kernel
theorem dX11_count_120 : decode cX11_count 120 = .ok (.aload_n 0, 1) := by decide +kernel
theorem dX11_count_121 : decode cX11_count 121 = .ok (.getfield 64, 3) := by decide +kernel
theorem dX11_count_124 : decode cX11_count 124 = .ok (.getfield 147, 3) := by decide +kernel
theorem dX11_count_127 : decode cX11_count 127 = .ok (.invokevirtual 188, 3) := by decide +kernel
theorem dX11_count_130 : decode cX11_count 130 = .ok (.ireturn, 1) := by decide +kernel
theorem dX11_count_131 : decode cX11_count 131 = .ok (.aload_n 0, 1) := by decide +kernel
theorem dX11_count_132 : decode cX11_count 132 = .ok (.aload_n 0, 1) := by decide +kernel
theorem dX11_count_133 : decode cX11_count 133 = .ok (.getfield 64, 3) := by decide +kernel
theorem dX11_count_136 : decode cX11_count 136 = .ok (.getfield 150, 3) := by decide +kernel
theorem dX11_count_139 : decode cX11_count 139 = .ok (.invokevirtual 188, 3) := by decide +kernel
theorem dX11_count_142 : decode cX11_count 142 = .ok (.ireturn, 1) := by decide +kernel
theorem dX11_count_143 : decode cX11_count 143 = .ok (.aload_n 0, 1) := by decide +kernel
theorem dX11_count_144 : decode cX11_count 144 = .ok (.getfield 36, 3) := by decide +kernel
theorem dX11_count_147 : decode cX11_count 147 = .ok (.getfield 116, 3) := by decide +kernel
theorem dX11_count_150 : decode cX11_count 150 = .ok (.ireturn, 1) := by decide +kernel
theorem dX11_count_151 : decode cX11_count 151 = .ok (.aload_n 0, 1) := by decide +kernel
theorem dX11_count_152 : decode cX11_count 152 = .ok (.getfield 74, 3) := by decide +kernel
theorem dX11_count_155 : decode cX11_count 155 = .ok (.getfield 192, 3) := by decide +kernel
theorem dX11_count_158 : decode cX11_count 158 = .ok (.ireturn, 1) := by decide +kernel
theorem dX11_count_159 : decode cX11_count 159 = .ok (.aload_n 0, 1) := by decide +kernel
theorem dX11_count_160 : decode cX11_count 160 = .ok (.getfield 92, 3) := by decide +kernel
theorem dX11_count_163 : decode cX11_count 163 = .ok (.ireturn, 1) := by decide +kernel
theorem dX11_count_164 : decode cX11_count 164 = .ok (.aload_n 0, 1) := by decide +kernel
theorem dX11_count_165 : decode cX11_count 165 = .ok (.getfield 10, 3) := by decide +kernel
theorem dX11_count_168 : decode cX11_count 168 = .ok (.getfield 100, 3) := by decide +kernel
theorem dX11_count_171 : decode cX11_count 171 = .ok (.ireturn, 1) := by decide +kernel
theorem dX11_count_172 : decode cX11_count 172 = .ok (.iconst (-1), 1) := by decide +kernel
theorem dX11_count_173 : decode cX11_count 173 = .ok (.ireturn, 1) := by decide +kernel
theorem dX11_sum_0 : decode cX11_sum 0 = .ok (.iconst 0, 1) := by decide +kernel
theorem dX11_sum_1 : decode cX11_sum 1 = .ok (.istore_n 2, 1) := by decide +kernel
theorem dX11_sum_2 : decode cX11_sum 2 = .ok (.iconst 0, 1) := by decide +kernel
theorem dX11_sum_3 : decode cX11_sum 3 = .ok (.istore_n 3, 1) := by decide +kernel
theorem dX11_sum_4 : decode cX11_sum 4 = .ok (.iload_n 3, 1) := by decide +kernel
theorem dX11_sum_5 : decode cX11_sum 5 = .ok (.aload_n 0, 1) := by decide +kernel
theorem dX11_sum_6 : decode cX11_sum 6 = .ok (.getfield 19, 3) := by decide +kernel
theorem dX11_sum_9 : decode cX11_sum 9 = .ok (.getfield 172, 3) := by decide +kernel
theorem dX11_sum_12 : decode cX11_sum 12 = .ok (.if_icmp .ge 21, 3) := by decide +kernel
theorem dX11_sum_15 : decode cX11_sum 15 = .ok (.iload_n 3, 1) := by decide +kernel
theorem dX11_sum_16 : decode cX11_sum 16 = .ok (.aload_n 1, 1) := by decide +kernel
theorem dX11_sum_17 : decode cX11_sum 17 = .ok (.arraylength, 1) := by decide +kernel
theorem dX11_sum_18 : decode cX11_sum 18 = .ok (.if_icmp .ge 15, 3) := by decide +kernel
theorem dX11_sum_21 : decode cX11_sum 21 = .ok (.iload_n 2, 1) := by decide +kernel
theorem dX11_sum_22 : decode cX11_sum 22 = .ok (.aload_n 1, 1) := by decide +kernel
theorem dX11_sum_23 : decode cX11_sum 23 = .ok (.iload_n 3, 1) := by decide +kernel
theorem dX11_sum_24 : decode cX11_sum 24 = .ok (.iaload, 1) := by decide +kernel
theorem dX11_sum_25 : decode cX11_sum 25 = .ok (.iadd, 1) := by decide +kernel
theorem dX11_sum_26 : decode cX11_sum 26 = .ok (.istore_n 2, 1) := by decide +kernel
theorem dX11_sum_27 : decode cX11_sum 27 = .ok (.iinc 3 1, 3) := by decide +kernel
theorem dX11_sum_30 : decode cX11_sum 30 = .ok (.goto (-26), 3) := by decide +kernel
theorem dX11_sum_33 : decode cX11_sum 33 = .ok (.iload_n 2, 1) := by decide +kernel
theorem dX11_sum_34 : decode cX11_sum 34 = .ok (.ireturn, 1) := by decide +kernel
theorem dX11_isPerson_0 : decode cX11_isPerson 0 = .ok (.iload_n 1, 1) := by decide +kernel
theorem dX11_isPerson_1 : decode cX11_isPerson 1 = .ok (.ifCond .lt 18, 3) := by decide +kernel
theorem dX11_isPerson_4 : decode cX11_isPerson 4 = .ok (.iload_n 1, 1) := by decide +kernel
theorem dX11_isPerson_5 : decode cX11_isPerson 5 = .ok (.aload_n 0, 1) := by decide +kernel
theorem dX11_isPerson_6 : decode cX11_isPerson 6 = .ok (.getfield 19, 3) := by decide +kernel
theorem dX11_isPerson_9 : decode cX11_isPerson 9 = .ok (.getfield 172, 3) := by decide +kernel
theorem dX11_isPerson_12 : decode cX11_isPerson 12 = .ok (.if_icmp .ge 7, 3) := by decide +kernel
theorem dX11_isPerson_15 : decode cX11_isPerson 15 = .ok (.iconst 1, 1) := by decide +kernel
theorem dX11_isPerson_16 : decode cX11_isPerson 16 = .ok (.goto 4, 3) := by decide +kernel
theorem dX11_isPerson_19 : decode cX11_isPerson 19 = .ok (.iconst 0, 1) := by decide +kernel
theorem dX11_isPerson_20 : decode cX11_isPerson 20 = .ok (.ireturn, 1) := by decide +kernel
theorem dX11_isTown_0 : decode cX11_isTown 0 = .ok (.iload_n 1, 1) := by decide +kernel
theorem dX11_isTown_1 : decode cX11_isTown 1 = .ok (.ifCond .lt 18, 3) := by decide +kernel
theorem dX11_isTown_4 : decode cX11_isTown 4 = .ok (.iload_n 1, 1) := by decide +kernel
theorem dX11_isTown_5 : decode cX11_isTown 5 = .ok (.aload_n 0, 1) := by decide +kernel
theorem dX11_isTown_6 : decode cX11_isTown 6 = .ok (.getfield 19, 3) := by decide +kernel
theorem dX11_isTown_9 : decode cX11_isTown 9 = .ok (.getfield 169, 3) := by decide +kernel
theorem dX11_isTown_12 : decode cX11_isTown 12 = .ok (.if_icmp .ge 7, 3) := by decide +kernel
theorem dX11_isTown_15 : decode cX11_isTown 15 = .ok (.iconst 1, 1) := by decide +kernel
theorem dX11_isTown_16 : decode cX11_isTown 16 = .ok (.goto 4, 3) := by decide +kernel
theorem dX11_isTown_19 : decode cX11_isTown 19 = .ok (.iconst 0, 1) := by decide +kernel
theorem dX11_isTown_20 : decode cX11_isTown 20 = .ok (.ireturn, 1) := by decide +kernel
theorem dX11_go_0 : decode cX11_go 0 = .ok (.aload_n 0, 1) := by decide +kernel
theorem dX11_go_1 : decode cX11_go 1 = .ok (.iload_n 1, 1) := by decide +kernel
theorem dX11_go_2 : decode cX11_go 2 = .ok (.invokevirtual 133, 3) := by decide +kernel
theorem dX11_go_5 : decode cX11_go 5 = .ok (.ifCond .eq 27, 3) := by decide +kernel
theorem dX11_go_8 : decode cX11_go 8 = .ok (.aload_n 0, 1) := by decide +kernel
theorem dX11_go_9 : decode cX11_go 9 = .ok (.iload_n 2, 1) := by decide +kernel
theorem dX11_go_10 : decode cX11_go 10 = .ok (.invokevirtual 156, 3) := by decide +kernel
theorem dX11_go_13 : decode cX11_go 13 = .ok (.ifCond .eq 19, 3) := by decide +kernel
theorem dX11_go_16 : decode cX11_go 16 = .ok (.aload_n 0, 1) := by decide +kernel
theorem dX11_go_17 : decode cX11_go 17 = .ok (.getfield 48, 3) := by decide +kernel
theorem dX11_go_20 : decode cX11_go 20 = .ok (.aload_n 0, 1) := by decide +kernel
theorem dX11_go_21 : decode cX11_go 21 = .ok (.getfield 64, 3) := by decide +kernel
theorem dX11_go_24 : decode cX11_go 24 = .ok (.iload_n 1, 1) := by decide +kernel
theorem dX11_go_25 : decode cX11_go 25 = .ok (.iload_n 2, 1) := by decide +kernel
theorem dX11_go_26 : decode cX11_go 26 = .ok (.invokevirtual 195, 3) := by decide +kernel
theorem dX11_go_29 : decode cX11_go 29 = .ok (.ifCond .ne 5, 3) := by decide +kernel
theorem dX11_go_32 : decode cX11_go 32 = .ok (.iconst 0, 1) := by decide +kernel
theorem dX11_go_33 : decode cX11_go 33 = .ok (.ireturn, 1) := by decide +kernel
theorem dX11_go_34 : decode cX11_go 34 = .ok (.aload_n 0, 1) := by decide +kernel
theorem dX11_go_35 : decode cX11_go 35 = .ok (.invokevirtual 199, 3) := by decide +kernel
theorem dX11_go_38 : decode cX11_go 38 = .ok (.aload_n 0, 1) := by decide +kernel
theorem dX11_go_39 : decode cX11_go 39 = .ok (.getfield 64, 3) := by decide +kernel
theorem dX11_go_42 : decode cX11_go 42 = .ok (.iload_n 1, 1) := by decide +kernel
theorem dX11_go_43 : decode cX11_go 43 = .ok (.iload_n 2, 1) := by decide +kernel
theorem dX11_go_44 : decode cX11_go 44 = .ok (.invokevirtual 202, 3) := by decide +kernel
theorem dX11_go_47 : decode cX11_go 47 = .ok (.iconst 1, 1) := by decide +kernel
theorem dX11_go_48 : decode cX11_go 48 = .ok (.ireturn, 1) := by decide +kernel
theorem dX11_forge_0 : decode cX11_forge 0 = .ok (.aload_n 0, 1) := by decide +kernel
theorem dX11_forge_1 : decode cX11_forge 1 = .ok (.iload_n 1, 1) := by decide +kernel
theorem dX11_forge_2 : decode cX11_forge 2 = .ok (.invokevirtual 133, 3) := by decide +kernel
theorem dX11_forge_5 : decode cX11_forge 5 = .ok (.ifCond .eq 19, 3) := by decide +kernel
theorem dX11_forge_8 : decode cX11_forge 8 = .ok (.aload_n 0, 1) := by decide +kernel
theorem dX11_forge_9 : decode cX11_forge 9 = .ok (.getfield 48, 3) := by decide +kernel
theorem dX11_forge_12 : decode cX11_forge 12 = .ok (.aload_n 0, 1) := by decide +kernel
theorem dX11_forge_13 : decode cX11_forge 13 = .ok (.getfield 64, 3) := by decide +kernel
theorem dX11_forge_16 : decode cX11_forge 16 = .ok (.iload_n 1, 1) := by decide +kernel
theorem dX11_forge_17 : decode cX11_forge 17 = .ok (.iload_n 2, 1) := by decide +kernel
theorem dX11_forge_18 : decode cX11_forge 18 = .ok (.invokevirtual 206, 3) := by decide +kernel
theorem dX11_forge_21 : decode cX11_forge 21 = .ok (.ifCond .ne 5, 3) := by decide +kernel
theorem dX11_forge_24 : decode cX11_forge 24 = .ok (.iconst (-1), 1) := by decide +kernel
theorem dX11_forge_25 : decode cX11_forge 25 = .ok (.ireturn, 1) := by decide +kernel
theorem dX11_forge_26 : decode cX11_forge 26 = .ok (.aload_n 0, 1) := by decide +kernel
theorem dX11_forge_27 : decode cX11_forge 27 = .ok (.invokevirtual 199, 3) := by decide +kernel
theorem dX11_forge_30 : decode cX11_forge 30 = .ok (.aload_n 0, 1) := by decide +kernel
theorem dX11_forge_31 : decode cX11_forge 31 = .ok (.getfield 48, 3) := by decide +kernel
theorem dX11_forge_34 : decode cX11_forge 34 = .ok (.aload_n 0, 1) := by decide +kernel
theorem dX11_forge_35 : decode cX11_forge 35 = .ok (.getfield 64, 3) := by decide +kernel
theorem dX11_forge_38 : decode cX11_forge 38 = .ok (.iload_n 1, 1) := by decide +kernel
theorem dX11_forge_39 : decode cX11_forge 39 = .ok (.iload_n 2, 1) := by decide +kernel
theorem dX11_forge_40 : decode cX11_forge 40 = .ok (.invokevirtual 209, 3) := by decide +kernel
theorem dX11_forge_43 : decode cX11_forge 43 = .ok (.aload_n 0, 1) := by decide +kernel
theorem dX11_forge_44 : decode cX11_forge 44 = .ok (.getfield 64, 3) := by decide +kernel
theorem dX11_forge_47 : decode cX11_forge 47 = .ok (.getfield 150, 3) := by decide +kernel
theorem dX11_forge_50 : decode cX11_forge 50 = .ok (.iload_n 1, 1) := by decide +kernel
theorem dX11_forge_51 : decode cX11_forge 51 = .ok (.iaload, 1) := by decide +kernel
theorem dX11_forge_52 : decode cX11_forge 52 = .ok (.ireturn, 1) := by decide +kernel
theorem dX11_shave_0 : decode cX11_shave 0 = .ok (.aload_n 0, 1) := by decide +kernel
theorem dX11_shave_1 : decode cX11_shave 1 = .ok (.iload_n 1, 1) := by decide +kernel
theorem dX11_shave_2 : decode cX11_shave 2 = .ok (.invokevirtual 133, 3) := by decide +kernel
theorem dX11_shave_5 : decode cX11_shave 5 = .ok (.ifCond .ne 5, 3) := by decide +kernel
theorem dX11_shave_8 : decode cX11_shave 8 = .ok (.iconst 0, 1) := by decide +kernel
theorem dX11_shave_9 : decode cX11_shave 9 = .ok (.ireturn, 1) := by decide +kernel
theorem dX11_shave_10 : decode cX11_shave 10 = .ok (.aload_n 0, 1) := by decide +kernel
theorem dX11_shave_11 : decode cX11_shave 11 = .ok (.invokevirtual 199, 3) := by decide +kernel
theorem dX11_shave_14 : decode cX11_shave 14 = .ok (.aload_n 0, 1) := by decide +kernel
theorem dX11_shave_15 : decode cX11_shave 15 = .ok (.getfield 64, 3) := by decide +kernel
theorem dX11_shave_18 : decode cX11_shave 18 = .ok (.iload_n 1, 1) := by decide +kernel
theorem dX11_shave_19 : decode cX11_shave 19 = .ok (.invokevirtual 213, 3) := by decide +kernel
theorem dX11_shave_22 : decode cX11_shave 22 = .ok (.iconst 1, 1) := by decide +kernel
theorem dX11_shave_23 : decode cX11_shave 23 = .ok (.ireturn, 1) := by decide +kernel
theorem dX11_week_0 : decode cX11_week 0 = .ok (.aload_n 0, 1) := by decide +kernel
theorem dX11_week_1 : decode cX11_week 1 = .ok (.invokevirtual 199, 3) := by decide +kernel
theorem dX11_week_4 : decode cX11_week 4 = .ok (.aload_n 0, 1) := by decide +kernel
theorem dX11_week_5 : decode cX11_week 5 = .ok (.getfield 48, 3) := by decide +kernel
theorem dX11_week_8 : decode cX11_week 8 = .ok (.aload_n 0, 1) := by decide +kernel
theorem dX11_week_9 : decode cX11_week 9 = .ok (.getfield 64, 3) := by decide +kernel
theorem dX11_week_12 : decode cX11_week 12 = .ok (.invokevirtual 217, 3) := by decide +kernel
theorem dX11_week_15 : decode cX11_week 15 = .ok (.aload_n 0, 1) := by decide +kernel
theorem dX11_week_16 : decode cX11_week 16 = .ok (.getfield 64, 3) := by decide +kernel
theorem dX11_week_19 : decode cX11_week 19 = .ok (.getfield 181, 3) := by decide +kernel
theorem dX11_week_22 : decode cX11_week 22 = .ok (.ireturn, 1) := by decide +kernel
theorem dX11_undo_0 : decode cX11_undo 0 = .ok (.aload_n 0, 1) := by decide +kernel
theorem dX11_undo_1 : decode cX11_undo 1 = .ok (.getfield 92, 3) := by decide +kernel
theorem dX11_undo_4 : decode cX11_undo 4 = .ok (.ifCond .ne 5, 3) := by decide +kernel
theorem dX11_undo_7 : decode cX11_undo 7 = .ok (.iconst 0, 1) := by decide +kernel
theorem dX11_undo_8 : decode cX11_undo 8 = .ok (.ireturn, 1) := by decide +kernel
theorem dX11_undo_9 : decode cX11_undo 9 = .ok (.aload_n 0, 1) := by decide +kernel
theorem dX11_undo_10 : decode cX11_undo 10 = .ok (.aload_n 0, 1) := by decide +kernel
theorem dX11_undo_11 : decode cX11_undo 11 = .ok (.getfield 88, 3) := by decide +kernel
theorem dX11_undo_14 : decode cX11_undo 14 = .ok (.bipush 16, 2) := by decide +kernel
theorem dX11_undo_16 : decode cX11_undo 16 = .ok (.iadd, 1) := by decide +kernel
theorem dX11_undo_17 : decode cX11_undo 17 = .ok (.iconst 1, 1) := by decide +kernel
theorem dX11_undo_18 : decode cX11_undo 18 = .ok (.isub, 1) := by decide +kernel
theorem dX11_undo_19 : decode cX11_undo 19 = .ok (.bipush 16, 2) := by decide +kernel
theorem dX11_undo_21 : decode cX11_undo 21 = .ok (.irem, 1) := by decide +kernel
theorem dX11_undo_22 : decode cX11_undo 22 = .ok (.putfield 88, 3) := by decide +kernel
theorem dX11_undo_25 : decode cX11_undo 25 = .ok (.aload_n 0, 1) := by decide +kernel
theorem dX11_undo_26 : decode cX11_undo 26 = .ok (.dup, 1) := by decide +kernel
theorem dX11_undo_27 : decode cX11_undo 27 = .ok (.getfield 92, 3) := by decide +kernel
theorem dX11_undo_30 : decode cX11_undo 30 = .ok (.iconst 1, 1) := by decide +kernel
theorem dX11_undo_31 : decode cX11_undo 31 = .ok (.isub, 1) := by decide +kernel
theorem dX11_undo_32 : decode cX11_undo 32 = .ok (.putfield 92, 3) := by decide +kernel
theorem dX11_undo_35 : decode cX11_undo 35 = .ok (.aload_n 0, 1) := by decide +kernel
theorem dX11_undo_36 : decode cX11_undo 36 = .ok (.getfield 64, 3) := by decide +kernel
theorem dX11_undo_39 : decode cX11_undo 39 = .ok (.aload_n 0, 1) := by decide +kernel
theorem dX11_undo_40 : decode cX11_undo 40 = .ok (.getfield 78, 3) := by decide +kernel
theorem dX11_undo_43 : decode cX11_undo 43 = .ok (.aload_n 0, 1) := by decide +kernel
theorem dX11_undo_44 : decode cX11_undo 44 = .ok (.getfield 88, 3) := by decide +kernel
theorem dX11_undo_47 : decode cX11_undo 47 = .ok (.aaload, 1) := by decide +kernel
theorem dX11_undo_48 : decode cX11_undo 48 = .ok (.invokevirtual 221, 3) := by decide +kernel
theorem dX11_undo_51 : decode cX11_undo 51 = .ok (.iconst 1, 1) := by decide +kernel
theorem dX11_undo_52 : decode cX11_undo 52 = .ok (.ireturn, 1) := by decide +kernel
theorem dX11_remember_0 : decode cX11_remember 0 = .ok (.aload_n 0, 1) := by decide +kernel
theorem dX11_remember_1 : decode cX11_remember 1 = .ok (.getfield 78, 3) := by decide +kernel
theorem dX11_remember_4 : decode cX11_remember 4 = .ok (.aload_n 0, 1) := by decide +kernel
theorem dX11_remember_5 : decode cX11_remember 5 = .ok (.getfield 88, 3) := by decide +kernel
theorem dX11_remember_8 : decode cX11_remember 8 = .ok (.aaload, 1) := by decide +kernel
theorem dX11_remember_9 : decode cX11_remember 9 = .ok (.aload_n 0, 1) := by decide +kernel
theorem dX11_remember_10 : decode cX11_remember 10 = .ok (.getfield 64, 3) := by decide +kernel
theorem dX11_remember_13 : decode cX11_remember 13 = .ok (.invokevirtual 221, 3) := by decide +kernel
theorem dX11_remember_16 : decode cX11_remember 16 = .ok (.aload_n 0, 1) := by decide +kernel
theorem dX11_remember_17 : decode cX11_remember 17 = .ok (.aload_n 0, 1) := by decide +kernel
