theorem dX12_farFrom_19 : decode cX12_farFrom 19 = .ok (.iconst 1, 1) := by decide +kernel
theorem dX12_farFrom_20 : decode cX12_farFrom 20 = .ok (.iand, 1) := by decide +kernel
theorem dX12_farFrom_21 : decode cX12_farFrom 21 = .ok (.iconst 1, 1) := by decide +kernel
theorem dX12_farFrom_22 : decode cX12_farFrom 22 = .ok (.if_icmp .ne 6, 3) := by decide +kernel
theorem dX12_farFrom_25 : decode cX12_farFrom 25 = .ok (.iload 5, 2) := by decide +kernel
theorem dX12_farFrom_27 : decode cX12_farFrom 27 = .ok (.ireturn, 1) := by decide +kernel
theorem dX12_farFrom_28 : decode cX12_farFrom 28 = .ok (.aload_n 0, 1) := by decide +kernel
theorem dX12_farFrom_29 : decode cX12_farFrom 29 = .ok (.iload_n 1, 1) := by decide +kernel
theorem dX12_farFrom_30 : decode cX12_farFrom 30 = .ok (.iload 4, 2) := by decide +kernel
theorem dX12_farFrom_32 : decode cX12_farFrom 32 = .ok (.invokevirtual 416, 3) := by decide +kernel
theorem dX12_farFrom_35 : decode cX12_farFrom 35 = .ok (.istore 4, 2) := by decide +kernel
theorem dX12_farFrom_37 : decode cX12_farFrom 37 = .ok (.iinc 5 1, 3) := by decide +kernel
theorem dX12_farFrom_40 : decode cX12_farFrom 40 = .ok (.goto (-32), 3) := by decide +kernel
theorem dX12_farFrom_43 : decode cX12_farFrom 43 = .ok (.iconst (-1), 1) := by decide +kernel
theorem dX12_farFrom_44 : decode cX12_farFrom 44 = .ok (.ireturn, 1) := by decide +kernel
theorem dX12_frontiers_0 : decode cX12_frontiers 0 = .ok (.aload_n 0, 1) := by decide +kernel
theorem dX12_frontiers_1 : decode cX12_frontiers 1 = .ok (.iconst 0, 1) := by decide +kernel
theorem dX12_frontiers_2 : decode cX12_frontiers 2 = .ok (.putfield 129, 3) := by decide +kernel
theorem dX12_frontiers_5 : decode cX12_frontiers 5 = .ok (.aload_n 0, 1) := by decide +kernel
theorem dX12_frontiers_6 : decode cX12_frontiers 6 = .ok (.iload_n 1, 1) := by decide +kernel
theorem dX12_frontiers_7 : decode cX12_frontiers 7 = .ok (.invokevirtual 370, 3) := by decide +kernel
theorem dX12_frontiers_10 : decode cX12_frontiers 10 = .ok (.ifCond .eq 28, 3) := by decide +kernel
theorem dX12_frontiers_13 : decode cX12_frontiers 13 = .ok (.aload_n 0, 1) := by decide +kernel
theorem dX12_frontiers_14 : decode cX12_frontiers 14 = .ok (.iload_n 2, 1) := by decide +kernel
theorem dX12_frontiers_15 : decode cX12_frontiers 15 = .ok (.invokevirtual 373, 3) := by decide +kernel
theorem dX12_frontiers_18 : decode cX12_frontiers 18 = .ok (.ifCond .eq 20, 3) := by decide +kernel
theorem dX12_frontiers_21 : decode cX12_frontiers 21 = .ok (.aload_n 0, 1) := by decide +kernel
theorem dX12_frontiers_22 : decode cX12_frontiers 22 = .ok (.iload_n 1, 1) := by decide +kernel
theorem dX12_frontiers_23 : decode cX12_frontiers 23 = .ok (.aload_n 0, 1) := by decide +kernel
theorem dX12_frontiers_24 : decode cX12_frontiers 24 = .ok (.getfield 108, 3) := by decide +kernel
theorem dX12_frontiers_27 : decode cX12_frontiers 27 = .ok (.iconst 1, 1) := by decide +kernel
theorem dX12_frontiers_28 : decode cX12_frontiers 28 = .ok (.iload_n 1, 1) := by decide +kernel
theorem dX12_frontiers_29 : decode cX12_frontiers 29 = .ok (.iadd, 1) := by decide +kernel
theorem dX12_frontiers_30 : decode cX12_frontiers 30 = .ok (.iaload, 1) := by decide +kernel
theorem dX12_frontiers_31 : decode cX12_frontiers 31 = .ok (.iload_n 2, 1) := by decide +kernel
theorem dX12_frontiers_32 : decode cX12_frontiers 32 = .ok (.invokevirtual 422, 3) := by decide +kernel
theorem dX12_frontiers_35 : decode cX12_frontiers 35 = .ok (.goto 4, 3) := by decide +kernel
theorem dX12_frontiers_38 : decode cX12_frontiers 38 = .ok (.iconst (-1), 1) := by decide +kernel
theorem dX12_frontiers_39 : decode cX12_frontiers 39 = .ok (.ireturn, 1) := by decide +kernel
theorem dX12_guide_0 : decode cX12_guide 0 = .ok (.aload_n 0, 1) := by decide +kernel
theorem dX12_guide_1 : decode cX12_guide 1 = .ok (.iconst 0, 1) := by decide +kernel
theorem dX12_guide_2 : decode cX12_guide 2 = .ok (.putfield 129, 3) := by decide +kernel
theorem dX12_guide_5 : decode cX12_guide 5 = .ok (.aload_n 0, 1) := by decide +kernel
theorem dX12_guide_6 : decode cX12_guide 6 = .ok (.iload_n 1, 1) := by decide +kernel
theorem dX12_guide_7 : decode cX12_guide 7 = .ok (.invokevirtual 370, 3) := by decide +kernel
theorem dX12_guide_10 : decode cX12_guide 10 = .ok (.ifCond .eq 28, 3) := by decide +kernel
theorem dX12_guide_13 : decode cX12_guide 13 = .ok (.aload_n 0, 1) := by decide +kernel
theorem dX12_guide_14 : decode cX12_guide 14 = .ok (.iload_n 2, 1) := by decide +kernel
theorem dX12_guide_15 : decode cX12_guide 15 = .ok (.invokevirtual 373, 3) := by decide +kernel
theorem dX12_guide_18 : decode cX12_guide 18 = .ok (.ifCond .eq 20, 3) := by decide +kernel
theorem dX12_guide_21 : decode cX12_guide 21 = .ok (.aload_n 0, 1) := by decide +kernel
theorem dX12_guide_22 : decode cX12_guide 22 = .ok (.iload_n 1, 1) := by decide +kernel
theorem dX12_guide_23 : decode cX12_guide 23 = .ok (.aload_n 0, 1) := by decide +kernel
theorem dX12_guide_24 : decode cX12_guide 24 = .ok (.getfield 108, 3) := by decide +kernel
theorem dX12_guide_27 : decode cX12_guide 27 = .ok (.iconst 1, 1) := by decide +kernel
theorem dX12_guide_28 : decode cX12_guide 28 = .ok (.iload_n 1, 1) := by decide +kernel
theorem dX12_guide_29 : decode cX12_guide 29 = .ok (.iadd, 1) := by decide +kernel
theorem dX12_guide_30 : decode cX12_guide 30 = .ok (.iaload, 1) := by decide +kernel
theorem dX12_guide_31 : decode cX12_guide 31 = .ok (.iload_n 2, 1) := by decide +kernel
theorem dX12_guide_32 : decode cX12_guide 32 = .ok (.invokevirtual 422, 3) := by decide +kernel
theorem dX12_guide_35 : decode cX12_guide 35 = .ok (.goto 4, 3) := by decide +kernel
theorem dX12_guide_38 : decode cX12_guide 38 = .ok (.iconst 0, 1) := by decide +kernel
theorem dX12_guide_39 : decode cX12_guide 39 = .ok (.istore_n 3, 1) := by decide +kernel
theorem dX12_guide_40 : decode cX12_guide 40 = .ok (.iload_n 3, 1) := by decide +kernel
theorem dX12_guide_41 : decode cX12_guide 41 = .ok (.ifCond .gt 5, 3) := by decide +kernel
theorem dX12_guide_44 : decode cX12_guide 44 = .ok (.iconst (-1), 1) := by decide +kernel
theorem dX12_guide_45 : decode cX12_guide 45 = .ok (.ireturn, 1) := by decide +kernel
theorem dX12_guide_46 : decode cX12_guide 46 = .ok (.iconst (-1), 1) := by decide +kernel
theorem dX12_guide_47 : decode cX12_guide 47 = .ok (.istore 4, 2) := by decide +kernel
theorem dX12_guide_49 : decode cX12_guide 49 = .ok (.aload_n 0, 1) := by decide +kernel
theorem dX12_guide_50 : decode cX12_guide 50 = .ok (.getfield 13, 3) := by decide +kernel
theorem dX12_guide_53 : decode cX12_guide 53 = .ok (.iconst 0, 1) := by decide +kernel
theorem dX12_guide_54 : decode cX12_guide 54 = .ok (.iaload, 1) := by decide +kernel
theorem dX12_guide_55 : decode cX12_guide 55 = .ok (.iconst 1, 1) := by decide +kernel
theorem dX12_guide_56 : decode cX12_guide 56 = .ok (.isub, 1) := by decide +kernel
theorem dX12_guide_57 : decode cX12_guide 57 = .ok (.istore 5, 2) := by decide +kernel
theorem dX12_guide_59 : decode cX12_guide 59 = .ok (.iload 5, 2) := by decide +kernel
theorem dX12_guide_61 : decode cX12_guide 61 = .ok (.ifCond .lt 37, 3) := by decide +kernel
theorem dX12_guide_64 : decode cX12_guide 64 = .ok (.aload_n 0, 1) := by decide +kernel
theorem dX12_guide_65 : decode cX12_guide 65 = .ok (.iload_n 1, 1) := by decide +kernel
theorem dX12_guide_66 : decode cX12_guide 66 = .ok (.iload 5, 2) := by decide +kernel
theorem dX12_guide_68 : decode cX12_guide 68 = .ok (.invokevirtual 383, 3) := by decide +kernel
theorem dX12_guide_71 : decode cX12_guide 71 = .ok (.ifCond .eq 21, 3) := by decide +kernel
theorem dX12_guide_74 : decode cX12_guide 74 = .ok (.aload_n 0, 1) := by decide +kernel
theorem dX12_guide_75 : decode cX12_guide 75 = .ok (.iload_n 1, 1) := by decide +kernel
theorem dX12_guide_76 : decode cX12_guide 76 = .ok (.iload 5, 2) := by decide +kernel
theorem dX12_guide_78 : decode cX12_guide 78 = .ok (.iload_n 2, 1) := by decide +kernel
theorem dX12_guide_79 : decode cX12_guide 79 = .ok (.invokevirtual 422, 3) := by decide +kernel
theorem dX12_guide_82 : decode cX12_guide 82 = .ok (.iload_n 3, 1) := by decide +kernel
theorem dX12_guide_83 : decode cX12_guide 83 = .ok (.iconst 1, 1) := by decide +kernel
theorem dX12_guide_84 : decode cX12_guide 84 = .ok (.isub, 1) := by decide +kernel
theorem dX12_guide_85 : decode cX12_guide 85 = .ok (.if_icmp .ne 7, 3) := by decide +kernel
theorem dX12_guide_88 : decode cX12_guide 88 = .ok (.iload 5, 2) := by decide +kernel
theorem dX12_guide_90 : decode cX12_guide 90 = .ok (.istore 4, 2) := by decide +kernel
theorem dX12_guide_92 : decode cX12_guide 92 = .ok (.iinc 5 (-1), 3) := by decide +kernel
theorem dX12_guide_95 : decode cX12_guide 95 = .ok (.goto (-36), 3) := by decide +kernel
theorem dX12_guide_98 : decode cX12_guide 98 = .ok (.iload 4, 2) := by decide +kernel
theorem dX12_guide_100 : decode cX12_guide 100 = .ok (.ireturn, 1) := by decide +kernel
theorem dX12_trapped_0 : decode cX12_trapped 0 = .ok (.aload_n 0, 1) := by decide +kernel
theorem dX12_trapped_1 : decode cX12_trapped 1 = .ok (.iconst 0, 1) := by decide +kernel
theorem dX12_trapped_2 : decode cX12_trapped 2 = .ok (.putfield 129, 3) := by decide +kernel
theorem dX12_trapped_5 : decode cX12_trapped 5 = .ok (.iconst 0, 1) := by decide +kernel
theorem dX12_trapped_6 : decode cX12_trapped 6 = .ok (.istore_n 1, 1) := by decide +kernel
theorem dX12_trapped_7 : decode cX12_trapped 7 = .ok (.iconst 0, 1) := by decide +kernel
theorem dX12_trapped_8 : decode cX12_trapped 8 = .ok (.istore_n 2, 1) := by decide +kernel
theorem dX12_trapped_9 : decode cX12_trapped 9 = .ok (.iload_n 2, 1) := by decide +kernel
theorem dX12_trapped_10 : decode cX12_trapped 10 = .ok (.aload_n 0, 1) := by decide +kernel
theorem dX12_trapped_11 : decode cX12_trapped 11 = .ok (.getfield 13, 3) := by decide +kernel
theorem dX12_trapped_14 : decode cX12_trapped 14 = .ok (.iconst 1, 1) := by decide +kernel
theorem dX12_trapped_15 : decode cX12_trapped 15 = .ok (.iaload, 1) := by decide +kernel
theorem dX12_trapped_16 : decode cX12_trapped 16 = .ok (.if_icmp .ge 65, 3) := by decide +kernel
theorem dX12_trapped_19 : decode cX12_trapped 19 = .ok (.iconst 1, 1) := by decide +kernel
theorem dX12_trapped_20 : decode cX12_trapped 20 = .ok (.istore_n 3, 1) := by decide +kernel
theorem dX12_trapped_21 : decode cX12_trapped 21 = .ok (.iconst 0, 1) := by decide +kernel
theorem dX12_trapped_22 : decode cX12_trapped 22 = .ok (.istore 4, 2) := by decide +kernel
theorem dX12_trapped_24 : decode cX12_trapped 24 = .ok (.iload 4, 2) := by decide +kernel
theorem dX12_trapped_26 : decode cX12_trapped 26 = .ok (.aload_n 0, 1) := by decide +kernel
theorem dX12_trapped_27 : decode cX12_trapped 27 = .ok (.getfield 13, 3) := by decide +kernel
theorem dX12_trapped_30 : decode cX12_trapped 30 = .ok (.iconst 0, 1) := by decide +kernel
theorem dX12_trapped_31 : decode cX12_trapped 31 = .ok (.iaload, 1) := by decide +kernel
theorem dX12_trapped_32 : decode cX12_trapped 32 = .ok (.if_icmp .ge 29, 3) := by decide +kernel
theorem dX12_trapped_35 : decode cX12_trapped 35 = .ok (.iload_n 3, 1) := by decide +kernel
theorem dX12_trapped_36 : decode cX12_trapped 36 = .ok (.ifCond .eq 17, 3) := by decide +kernel
theorem dX12_trapped_39 : decode cX12_trapped 39 = .ok (.aload_n 0, 1) := by decide +kernel
theorem dX12_trapped_40 : decode cX12_trapped 40 = .ok (.iload_n 2, 1) := by decide +kernel
theorem dX12_trapped_41 : decode cX12_trapped 41 = .ok (.iload 4, 2) := by decide +kernel
theorem dX12_trapped_43 : decode cX12_trapped 43 = .ok (.invokevirtual 383, 3) := by decide +kernel
theorem dX12_trapped_46 : decode cX12_trapped 46 = .ok (.ifCond .ne 7, 3) := by decide +kernel
theorem dX12_trapped_49 : decode cX12_trapped 49 = .ok (.iconst 1, 1) := by decide +kernel
theorem dX12_trapped_50 : decode cX12_trapped 50 = .ok (.goto 4, 3) := by decide +kernel
theorem dX12_trapped_53 : decode cX12_trapped 53 = .ok (.iconst 0, 1) := by decide +kernel
theorem dX12_trapped_54 : decode cX12_trapped 54 = .ok (.istore_n 3, 1) := by decide +kernel
theorem dX12_trapped_55 : decode cX12_trapped 55 = .ok (.iinc 4 1, 3) := by decide +kernel
theorem dX12_trapped_58 : decode cX12_trapped 58 = .ok (.goto (-34), 3) := by decide +kernel
theorem dX12_trapped_61 : decode cX12_trapped 61 = .ok (.iload_n 1, 1) := by decide +kernel
theorem dX12_trapped_62 : decode cX12_trapped 62 = .ok (.iload_n 3, 1) := by decide +kernel
theorem dX12_trapped_63 : decode cX12_trapped 63 = .ok (.ifCond .eq 9, 3) := by decide +kernel
theorem dX12_trapped_66 : decode cX12_trapped 66 = .ok (.iconst 1, 1) := by decide +kernel
theorem dX12_trapped_67 : decode cX12_trapped 67 = .ok (.iload_n 2, 1) := by decide +kernel
theorem dX12_trapped_68 : decode cX12_trapped 68 = .ok (.ishl, 1) := by decide +kernel
theorem dX12_trapped_69 : decode cX12_trapped 69 = .ok (.goto 4, 3) := by decide +kernel
theorem dX12_trapped_72 : decode cX12_trapped 72 = .ok (.iconst 0, 1) := by decide +kernel
theorem dX12_trapped_73 : decode cX12_trapped 73 = .ok (.ior, 1) := by decide +kernel
theorem dX12_trapped_74 : decode cX12_trapped 74 = .ok (.istore_n 1, 1) := by decide +kernel
theorem dX12_trapped_75 : decode cX12_trapped 75 = .ok (.iinc 2 1, 3) := by decide +kernel
theorem dX12_trapped_78 : decode cX12_trapped 78 = .ok (.goto (-69), 3) := by decide +kernel
theorem dX12_trapped_81 : decode cX12_trapped 81 = .ok (.iload_n 1, 1) := by decide +kernel
theorem dX12_trapped_82 : decode cX12_trapped 82 = .ok (.ireturn, 1) := by decide +kernel
theorem dX12_whenAt_0 : decode cX12_whenAt 0 = .ok (.aload_n 0, 1) := by decide +kernel
theorem dX12_whenAt_1 : decode cX12_whenAt 1 = .ok (.getfield 108, 3) := by decide +kernel
theorem dX12_whenAt_4 : decode cX12_whenAt 4 = .ok (.iconst 0, 1) := by decide +kernel
theorem dX12_whenAt_5 : decode cX12_whenAt 5 = .ok (.aload_n 0, 1) := by decide +kernel
theorem dX12_whenAt_6 : decode cX12_whenAt 6 = .ok (.getfield 114, 3) := by decide +kernel
theorem dX12_whenAt_9 : decode cX12_whenAt 9 = .ok (.iconst 0, 1) := by decide +kernel
theorem dX12_whenAt_10 : decode cX12_whenAt 10 = .ok (.invokestatic 379, 3) := by decide +kernel
theorem dX12_whenAt_13 : decode cX12_whenAt 13 = .ok (.aload_n 0, 1) := by decide +kernel
theorem dX12_whenAt_14 : decode cX12_whenAt 14 = .ok (.iload_n 1, 1) := by decide +kernel
theorem dX12_whenAt_15 : decode cX12_whenAt 15 = .ok (.iconst 1, 1) := by decide +kernel
theorem dX12_whenAt_16 : decode cX12_whenAt 16 = .ok (.aload_n 0, 1) := by decide +kernel
theorem dX12_whenAt_17 : decode cX12_whenAt 17 = .ok (.getfield 108, 3) := by decide +kernel
theorem dX12_whenAt_20 : decode cX12_whenAt 20 = .ok (.iconst 1, 1) := by decide +kernel
theorem dX12_whenAt_21 : decode cX12_whenAt 21 = .ok (.iload_n 1, 1) := by decide +kernel
theorem dX12_whenAt_22 : decode cX12_whenAt 22 = .ok (.iadd, 1) := by decide +kernel
theorem dX12_whenAt_23 : decode cX12_whenAt 23 = .ok (.iaload, 1) := by decide +kernel
theorem dX12_whenAt_24 : decode cX12_whenAt 24 = .ok (.ishl, 1) := by decide +kernel
theorem dX12_whenAt_25 : decode cX12_whenAt 25 = .ok (.invokevirtual 419, 3) := by decide +kernel
theorem dX12_whenAt_28 : decode cX12_whenAt 28 = .ok (.istore_n 3, 1) := by decide +kernel
theorem dX12_whenAt_29 : decode cX12_whenAt 29 = .ok (.iconst 0, 1) := by decide +kernel
theorem dX12_whenAt_30 : decode cX12_whenAt 30 = .ok (.istore 4, 2) := by decide +kernel
theorem dX12_whenAt_32 : decode cX12_whenAt 32 = .ok (.iload 4, 2) := by decide +kernel
theorem dX12_whenAt_34 : decode cX12_whenAt 34 = .ok (.bipush 100, 2) := by decide +kernel
theorem dX12_whenAt_36 : decode cX12_whenAt 36 = .ok (.if_icmp .ge 28, 3) := by decide +kernel
theorem dX12_whenAt_39 : decode cX12_whenAt 39 = .ok (.iload_n 3, 1) := by decide +kernel
theorem dX12_whenAt_40 : decode cX12_whenAt 40 = .ok (.iload_n 2, 1) := by decide +kernel
theorem dX12_whenAt_41 : decode cX12_whenAt 41 = .ok (.ishr, 1) := by decide +kernel
theorem dX12_whenAt_42 : decode cX12_whenAt 42 = .ok (.iconst 1, 1) := by decide +kernel
theorem dX12_whenAt_43 : decode cX12_whenAt 43 = .ok (.iand, 1) := by decide +kernel
theorem dX12_whenAt_44 : decode cX12_whenAt 44 = .ok (.ifCond .ne 20, 3) := by decide +kernel
theorem dX12_whenAt_47 : decode cX12_whenAt 47 = .ok (.aload_n 0, 1) := by decide +kernel
theorem dX12_whenAt_48 : decode cX12_whenAt 48 = .ok (.invokevirtual 401, 3) := by decide +kernel
theorem dX12_whenAt_51 : decode cX12_whenAt 51 = .ok (.iinc 4 1, 3) := by decide +kernel
theorem dX12_whenAt_54 : decode cX12_whenAt 54 = .ok (.aload_n 0, 1) := by decide +kernel
theorem dX12_whenAt_55 : decode cX12_whenAt 55 = .ok (.iload_n 1, 1) := by decide +kernel
theorem dX12_whenAt_56 : decode cX12_whenAt 56 = .ok (.iload_n 3, 1) := by decide +kernel
theorem dX12_whenAt_57 : decode cX12_whenAt 57 = .ok (.invokevirtual 419, 3) := by decide +kernel
theorem dX12_whenAt_60 : decode cX12_whenAt 60 = .ok (.istore_n 3, 1) := by decide +kernel
theorem dX12_whenAt_61 : decode cX12_whenAt 61 = .ok (.goto (-29), 3) := by decide +kernel
theorem dX12_whenAt_64 : decode cX12_whenAt 64 = .ok (.aload_n 0, 1) := by decide +kernel
theorem dX12_whenAt_65 : decode cX12_whenAt 65 = .ok (.getfield 114, 3) := by decide +kernel
theorem dX12_whenAt_68 : decode cX12_whenAt 68 = .ok (.iconst 0, 1) := by decide +kernel
theorem dX12_whenAt_69 : decode cX12_whenAt 69 = .ok (.aload_n 0, 1) := by decide +kernel
theorem dX12_whenAt_70 : decode cX12_whenAt 70 = .ok (.getfield 108, 3) := by decide +kernel
theorem dX12_whenAt_73 : decode cX12_whenAt 73 = .ok (.iconst 0, 1) := by decide +kernel
theorem dX12_whenAt_74 : decode cX12_whenAt 74 = .ok (.invokestatic 379, 3) := by decide +kernel
theorem dX12_whenAt_77 : decode cX12_whenAt 77 = .ok (.iload 4, 2) := by decide +kernel
theorem dX12_whenAt_79 : decode cX12_whenAt 79 = .ok (.bipush 99, 2) := by decide +kernel
theorem dX12_whenAt_81 : decode cX12_whenAt 81 = .ok (.if_icmp .le 7, 3) := by decide +kernel
theorem dX12_whenAt_84 : decode cX12_whenAt 84 = .ok (.iconst (-1), 1) := by decide +kernel
theorem dX12_whenAt_85 : decode cX12_whenAt 85 = .ok (.goto 5, 3) := by decide +kernel
theorem dX12_whenAt_88 : decode cX12_whenAt 88 = .ok (.iload 4, 2) := by decide +kernel
theorem dX12_whenAt_90 : decode cX12_whenAt 90 = .ok (.ireturn, 1) := by decide +kernel
theorem dX12_when_0 : decode cX12_when 0 = .ok (.aload_n 0, 1) := by decide +kernel
theorem dX12_when_1 : decode cX12_when 1 = .ok (.iconst 0, 1) := by decide +kernel
theorem dX12_when_2 : decode cX12_when 2 = .ok (.putfield 129, 3) := by decide +kernel
theorem dX12_when_5 : decode cX12_when 5 = .ok (.aload_n 0, 1) := by decide +kernel
theorem dX12_when_6 : decode cX12_when 6 = .ok (.iload_n 1, 1) := by decide +kernel
theorem dX12_when_7 : decode cX12_when 7 = .ok (.invokevirtual 370, 3) := by decide +kernel
theorem dX12_when_10 : decode cX12_when 10 = .ok (.ifCond .eq 20, 3) := by decide +kernel
theorem dX12_when_13 : decode cX12_when 13 = .ok (.aload_n 0, 1) := by decide +kernel
theorem dX12_when_14 : decode cX12_when 14 = .ok (.iload_n 2, 1) := by decide +kernel
theorem dX12_when_15 : decode cX12_when 15 = .ok (.invokevirtual 373, 3) := by decide +kernel
theorem dX12_when_18 : decode cX12_when 18 = .ok (.ifCond .eq 12, 3) := by decide +kernel
theorem dX12_when_21 : decode cX12_when 21 = .ok (.aload_n 0, 1) := by decide +kernel
theorem dX12_when_22 : decode cX12_when 22 = .ok (.iload_n 1, 1) := by decide +kernel
theorem dX12_when_23 : decode cX12_when 23 = .ok (.iload_n 2, 1) := by decide +kernel
theorem dX12_when_24 : decode cX12_when 24 = .ok (.invokevirtual 426, 3) := by decide +kernel
theorem dX12_when_27 : decode cX12_when 27 = .ok (.goto 4, 3) := by decide +kernel
theorem dX12_when_30 : decode cX12_when 30 = .ok (.iconst (-1), 1) := by decide +kernel
theorem dX12_when_31 : decode cX12_when 31 = .ok (.ireturn, 1) := by decide +kernel
theorem dX12_roams_0 : decode cX12_roams 0 = .ok (.iconst 1, 1) := by decide +kernel
theorem dX12_roams_1 : decode cX12_roams 1 = .ok (.aload_n 0, 1) := by decide +kernel
theorem dX12_roams_2 : decode cX12_roams 2 = .ok (.getfield 13, 3) := by decide +kernel
theorem dX12_roams_5 : decode cX12_roams 5 = .ok (.iconst 0, 1) := by decide +kernel
theorem dX12_roams_6 : decode cX12_roams 6 = .ok (.iaload, 1) := by decide +kernel
theorem dX12_roams_7 : decode cX12_roams 7 = .ok (.ishl, 1) := by decide +kernel
theorem dX12_roams_8 : decode cX12_roams 8 = .ok (.iconst 1, 1) := by decide +kernel
theorem dX12_roams_9 : decode cX12_roams 9 = .ok (.isub, 1) := by decide +kernel
theorem dX12_roams_10 : decode cX12_roams 10 = .ok (.istore_n 2, 1) := by decide +kernel
theorem dX12_roams_11 : decode cX12_roams 11 = .ok (.iconst 1, 1) := by decide +kernel
theorem dX12_roams_12 : decode cX12_roams 12 = .ok (.istore_n 3, 1) := by decide +kernel
theorem dX12_roams_13 : decode cX12_roams 13 = .ok (.iconst 0, 1) := by decide +kernel
theorem dX12_roams_14 : decode cX12_roams 14 = .ok (.istore 4, 2) := by decide +kernel
theorem dX12_roams_16 : decode cX12_roams 16 = .ok (.iload_n 3, 1) := by decide +kernel
theorem dX12_roams_17 : decode cX12_roams 17 = .ok (.ifCond .eq 154, 3) := by decide +kernel
theorem dX12_roams_20 : decode cX12_roams 20 = .ok (.iconst 0, 1) := by decide +kernel
theorem dX12_roams_21 : decode cX12_roams 21 = .ok (.istore_n 3, 1) := by decide +kernel
theorem dX12_roams_22 : decode cX12_roams 22 = .ok (.iconst 0, 1) := by decide +kernel
theorem dX12_roams_23 : decode cX12_roams 23 = .ok (.istore 5, 2) := by decide +kernel
theorem dX12_roams_25 : decode cX12_roams 25 = .ok (.iload 5, 2) := by decide +kernel
theorem dX12_roams_27 : decode cX12_roams 27 = .ok (.sipush 384, 3) := by decide +kernel
theorem dX12_roams_30 : decode cX12_roams 30 = .ok (.if_icmp .ge 138, 3) := by decide +kernel
theorem dX12_roams_33 : decode cX12_roams 33 = .ok (.aload_n 0, 1) := by decide +kernel
theorem dX12_roams_34 : decode cX12_roams 34 = .ok (.getfield 126, 3) := by decide +kernel
theorem dX12_roams_37 : decode cX12_roams 37 = .ok (.iload 5, 2) := by decide +kernel
theorem dX12_roams_39 : decode cX12_roams 39 = .ok (.baload, 1) := by decide +kernel
theorem dX12_roams_40 : decode cX12_roams 40 = .ok (.ifCond .ne 6, 3) := by decide +kernel
theorem dX12_roams_43 : decode cX12_roams 43 = .ok (.goto 119, 3) := by decide +kernel
theorem dX12_roams_46 : decode cX12_roams 46 = .ok (.iload 5, 2) := by decide +kernel
theorem dX12_roams_48 : decode cX12_roams 48 = .ok (.bipush 64, 2) := by decide +kernel
theorem dX12_roams_50 : decode cX12_roams 50 = .ok (.idiv, 1) := by decide +kernel
theorem dX12_roams_51 : decode cX12_roams 51 = .ok (.istore 6, 2) := by decide +kernel
theorem dX12_roams_53 : decode cX12_roams 53 = .ok (.iload 4, 2) := by decide +kernel
theorem dX12_roams_55 : decode cX12_roams 55 = .ok (.ifCond .ne 12, 3) := by decide +kernel
theorem dX12_roams_58 : decode cX12_roams 58 = .ok (.iload 5, 2) := by decide +kernel
theorem dX12_roams_60 : decode cX12_roams 60 = .ok (.bipush 64, 2) := by decide +kernel
theorem dX12_roams_62 : decode cX12_roams 62 = .ok (.irem, 1) := by decide +kernel
theorem dX12_roams_63 : decode cX12_roams 63 = .ok (.iload_n 2, 1) := by decide +kernel
theorem dX12_roams_64 : decode cX12_roams 64 = .ok (.if_icmp .ne 7, 3) := by decide +kernel
theorem dX12_roams_67 : decode cX12_roams 67 = .ok (.iconst 1, 1) := by decide +kernel
theorem dX12_roams_68 : decode cX12_roams 68 = .ok (.goto 4, 3) := by decide +kernel
theorem dX12_roams_71 : decode cX12_roams 71 = .ok (.iconst 0, 1) := by decide +kernel
theorem dX12_roams_72 : decode cX12_roams 72 = .ok (.istore 4, 2) := by decide +kernel
theorem dX12_roams_74 : decode cX12_roams 74 = .ok (.iconst 0, 1) := by decide +kernel
theorem dX12_roams_75 : decode cX12_roams 75 = .ok (.istore 7, 2) := by decide +kernel
theorem dX12_roams_77 : decode cX12_roams 77 = .ok (.iload 7, 2) := by decide +kernel
theorem dX12_roams_79 : decode cX12_roams 79 = .ok (.aload_n 0, 1) := by decide +kernel
theorem dX12_roams_80 : decode cX12_roams 80 = .ok (.getfield 13, 3) := by decide +kernel
theorem dX12_roams_83 : decode cX12_roams 83 = .ok (.iconst 0, 1) := by decide +kernel
theorem dX12_roams_84 : decode cX12_roams 84 = .ok (.iaload, 1) := by decide +kernel
theorem dX12_roams_85 : decode cX12_roams 85 = .ok (.if_icmp .ge 77, 3) := by decide +kernel
theorem dX12_roams_88 : decode cX12_roams 88 = .ok (.bipush 64, 2) := by decide +kernel
theorem dX12_roams_90 : decode cX12_roams 90 = .ok (.iload 7, 2) := by decide +kernel
theorem dX12_roams_92 : decode cX12_roams 92 = .ok (.imul, 1) := by decide +kernel
theorem dX12_roams_93 : decode cX12_roams 93 = .ok (.iload 5, 2) := by decide +kernel
theorem dX12_roams_95 : decode cX12_roams 95 = .ok (.bipush 64, 2) := by decide +kernel
theorem dX12_roams_97 : decode cX12_roams 97 = .ok (.irem, 1) := by decide +kernel
theorem dX12_roams_98 : decode cX12_roams 98 = .ok (.iconst 1, 1) := by decide +kernel
theorem dX12_roams_99 : decode cX12_roams 99 = .ok (.iload 7, 2) := by decide +kernel
theorem dX12_roams_101 : decode cX12_roams 101 = .ok (.ishl, 1) := by decide +kernel
theorem dX12_roams_102 : decode cX12_roams 102 = .ok (.ior, 1) := by decide +kernel
theorem dX12_roams_103 : decode cX12_roams 103 = .ok (.iadd, 1) := by decide +kernel
theorem dX12_roams_104 : decode cX12_roams 104 = .ok (.istore 8, 2) := by decide +kernel
theorem dX12_roams_106 : decode cX12_roams 106 = .ok (.aload_n 0, 1) := by decide +kernel
theorem dX12_roams_107 : decode cX12_roams 107 = .ok (.getfield 26, 3) := by decide +kernel
theorem dX12_roams_110 : decode cX12_roams 110 = .ok (.iload 6, 2) := by decide +kernel
theorem dX12_roams_112 : decode cX12_roams 112 = .ok (.iaload, 1) := by decide +kernel
theorem dX12_roams_113 : decode cX12_roams 113 = .ok (.iload 7, 2) := by decide +kernel
theorem dX12_roams_115 : decode cX12_roams 115 = .ok (.ishr, 1) := by decide +kernel
theorem dX12_roams_116 : decode cX12_roams 116 = .ok (.iconst 1, 1) := by decide +kernel
theorem dX12_roams_117 : decode cX12_roams 117 = .ok (.iand, 1) := by decide +kernel
theorem dX12_roams_118 : decode cX12_roams 118 = .ok (.ifCond .eq 38, 3) := by decide +kernel
theorem dX12_roams_121 : decode cX12_roams 121 = .ok (.aload_n 0, 1) := by decide +kernel
theorem dX12_roams_122 : decode cX12_roams 122 = .ok (.getfield 126, 3) := by decide +kernel
theorem dX12_roams_125 : decode cX12_roams 125 = .ok (.iload 8, 2) := by decide +kernel
theorem dX12_roams_127 : decode cX12_roams 127 = .ok (.baload, 1) := by decide +kernel
theorem dX12_roams_128 : decode cX12_roams 128 = .ok (.ifCond .ne 28, 3) := by decide +kernel
theorem dX12_roams_131 : decode cX12_roams 131 = .ok (.aload_n 0, 1) := by decide +kernel
theorem dX12_roams_132 : decode cX12_roams 132 = .ok (.iload 7, 2) := by decide +kernel
theorem dX12_roams_134 : decode cX12_roams 134 = .ok (.iload_n 1, 1) := by decide +kernel
theorem dX12_roams_135 : decode cX12_roams 135 = .ok (.iload 6, 2) := by decide +kernel
theorem dX12_roams_137 : decode cX12_roams 137 = .ok (.invokevirtual 362, 3) := by decide +kernel
theorem dX12_roams_140 : decode cX12_roams 140 = .ok (.ifCond .ne 6, 3) := by decide +kernel
theorem dX12_roams_143 : decode cX12_roams 143 = .ok (.goto 13, 3) := by decide +kernel
theorem dX12_roams_146 : decode cX12_roams 146 = .ok (.aload_n 0, 1) := by decide +kernel
theorem dX12_roams_147 : decode cX12_roams 147 = .ok (.getfield 126, 3) := by decide +kernel
theorem dX12_roams_150 : decode cX12_roams 150 = .ok (.iload 8, 2) := by decide +kernel
theorem dX12_roams_152 : decode cX12_roams 152 = .ok (.iconst 1, 1) := by decide +kernel
theorem dX12_roams_153 : decode cX12_roams 153 = .ok (.bastore, 1) := by decide +kernel
theorem dX12_roams_154 : decode cX12_roams 154 = .ok (.iconst 1, 1) := by decide +kernel
theorem dX12_roams_155 : decode cX12_roams 155 = .ok (.istore_n 3, 1) := by decide +kernel
theorem dX12_roams_156 : decode cX12_roams 156 = .ok (.iinc 7 1, 3) := by decide +kernel
theorem dX12_roams_159 : decode cX12_roams 159 = .ok (.goto (-82), 3) := by decide +kernel
theorem dX12_roams_162 : decode cX12_roams 162 = .ok (.iinc 5 1, 3) := by decide +kernel
theorem dX12_roams_165 : decode cX12_roams 165 = .ok (.goto (-140), 3) := by decide +kernel
theorem dX12_roams_168 : decode cX12_roams 168 = .ok (.goto (-152), 3) := by decide +kernel
theorem dX12_roams_171 : decode cX12_roams 171 = .ok (.iload 4, 2) := by decide +kernel
theorem dX12_roams_173 : decode cX12_roams 173 = .ok (.ireturn, 1) := by decide +kernel
theorem dX12_round_0 : decode cX12_round 0 = .ok (.aload_n 0, 1) := by decide +kernel
theorem dX12_round_1 : decode cX12_round 1 = .ok (.iconst 0, 1) := by decide +kernel
theorem dX12_round_2 : decode cX12_round 2 = .ok (.putfield 129, 3) := by decide +kernel
theorem dX12_round_5 : decode cX12_round 5 = .ok (.aload_n 0, 1) := by decide +kernel
theorem dX12_round_6 : decode cX12_round 6 = .ok (.iload_n 1, 1) := by decide +kernel
theorem dX12_round_7 : decode cX12_round 7 = .ok (.invokevirtual 370, 3) := by decide +kernel
theorem dX12_round_10 : decode cX12_round 10 = .ok (.ifCond .ne 5, 3) := by decide +kernel
theorem dX12_round_13 : decode cX12_round 13 = .ok (.iconst (-1), 1) := by decide +kernel
theorem dX12_round_14 : decode cX12_round 14 = .ok (.ireturn, 1) := by decide +kernel
theorem dX12_round_15 : decode cX12_round 15 = .ok (.aload_n 0, 1) := by decide +kernel
theorem dX12_round_16 : decode cX12_round 16 = .ok (.getfield 108, 3) := by decide +kernel
theorem dX12_round_19 : decode cX12_round 19 = .ok (.iconst 0, 1) := by decide +kernel
theorem dX12_round_20 : decode cX12_round 20 = .ok (.aload_n 0, 1) := by decide +kernel
theorem dX12_round_21 : decode cX12_round 21 = .ok (.getfield 114, 3) := by decide +kernel
theorem dX12_round_24 : decode cX12_round 24 = .ok (.iconst 0, 1) := by decide +kernel
theorem dX12_round_25 : decode cX12_round 25 = .ok (.invokestatic 379, 3) := by decide +kernel
theorem dX12_round_28 : decode cX12_round 28 = .ok (.iconst 0, 1) := by decide +kernel
theorem dX12_round_29 : decode cX12_round 29 = .ok (.istore_n 2, 1) := by decide +kernel
theorem dX12_round_30 : decode cX12_round 30 = .ok (.iload_n 2, 1) := by decide +kernel
theorem dX12_round_31 : decode cX12_round 31 = .ok (.sipush 384, 3) := by decide +kernel
theorem dX12_round_34 : decode cX12_round 34 = .ok (.if_icmp .ge 16, 3) := by decide +kernel
theorem dX12_round_37 : decode cX12_round 37 = .ok (.aload_n 0, 1) := by decide +kernel
theorem dX12_round_38 : decode cX12_round 38 = .ok (.getfield 126, 3) := by decide +kernel
theorem dX12_round_41 : decode cX12_round 41 = .ok (.iload_n 2, 1) := by decide +kernel
theorem dX12_round_42 : decode cX12_round 42 = .ok (.iconst 0, 1) := by decide +kernel
theorem dX12_round_43 : decode cX12_round 43 = .ok (.bastore, 1) := by decide +kernel
theorem dX12_round_44 : decode cX12_round 44 = .ok (.iinc 2 1, 3) := by decide +kernel
theorem dX12_round_47 : decode cX12_round 47 = .ok (.goto (-17), 3) := by decide +kernel
theorem dX12_round_50 : decode cX12_round 50 = .ok (.aload_n 0, 1) := by decide +kernel
theorem dX12_round_51 : decode cX12_round 51 = .ok (.getfield 126, 3) := by decide +kernel
theorem dX12_round_54 : decode cX12_round 54 = .ok (.bipush 64, 2) := by decide +kernel
theorem dX12_round_56 : decode cX12_round 56 = .ok (.aload_n 0, 1) := by decide +kernel
theorem dX12_round_57 : decode cX12_round 57 = .ok (.getfield 108, 3) := by decide +kernel
theorem dX12_round_60 : decode cX12_round 60 = .ok (.iconst 1, 1) := by decide +kernel
theorem dX12_round_61 : decode cX12_round 61 = .ok (.iload_n 1, 1) := by decide +kernel
theorem dX12_round_62 : decode cX12_round 62 = .ok (.iadd, 1) := by decide +kernel
theorem dX12_round_63 : decode cX12_round 63 = .ok (.iaload, 1) := by decide +kernel
theorem dX12_round_64 : decode cX12_round 64 = .ok (.imul, 1) := by decide +kernel
theorem dX12_round_65 : decode cX12_round 65 = .ok (.aload_n 0, 1) := by decide +kernel
theorem dX12_round_66 : decode cX12_round 66 = .ok (.getfield 108, 3) := by decide +kernel
theorem dX12_round_69 : decode cX12_round 69 = .ok (.bipush 25, 2) := by decide +kernel
theorem dX12_round_71 : decode cX12_round 71 = .ok (.iload_n 1, 1) := by decide +kernel
theorem dX12_round_72 : decode cX12_round 72 = .ok (.iadd, 1) := by decide +kernel
theorem dX12_round_73 : decode cX12_round 73 = .ok (.iaload, 1) := by decide +kernel
theorem dX12_round_74 : decode cX12_round 74 = .ok (.iadd, 1) := by decide +kernel
theorem dX12_round_75 : decode cX12_round 75 = .ok (.iconst 1, 1) := by decide +kernel
theorem dX12_round_76 : decode cX12_round 76 = .ok (.bastore, 1) := by decide +kernel
theorem dX12_round_77 : decode cX12_round 77 = .ok (.iconst 0, 1) := by decide +kernel
theorem dX12_round_78 : decode cX12_round 78 = .ok (.istore_n 2, 1) := by decide +kernel
theorem dX12_round_79 : decode cX12_round 79 = .ok (.iload_n 2, 1) := by decide +kernel
theorem dX12_round_80 : decode cX12_round 80 = .ok (.bipush 100, 2) := by decide +kernel
theorem dX12_round_82 : decode cX12_round 82 = .ok (.if_icmp .ge 21, 3) := by decide +kernel
theorem dX12_round_85 : decode cX12_round 85 = .ok (.aload_n 0, 1) := by decide +kernel
theorem dX12_round_86 : decode cX12_round 86 = .ok (.iload_n 1, 1) := by decide +kernel
theorem dX12_round_87 : decode cX12_round 87 = .ok (.invokevirtual 429, 3) := by decide +kernel
theorem dX12_round_90 : decode cX12_round 90 = .ok (.ifCond .ne 13, 3) := by decide +kernel
theorem dX12_round_93 : decode cX12_round 93 = .ok (.aload_n 0, 1) := by decide +kernel
theorem dX12_round_94 : decode cX12_round 94 = .ok (.invokevirtual 401, 3) := by decide +kernel
theorem dX12_round_97 : decode cX12_round 97 = .ok (.iinc 2 1, 3) := by decide +kernel
theorem dX12_round_100 : decode cX12_round 100 = .ok (.goto (-21), 3) := by decide +kernel
theorem dX12_round_103 : decode cX12_round 103 = .ok (.aload_n 0, 1) := by decide +kernel
theorem dX12_round_104 : decode cX12_round 104 = .ok (.getfield 114, 3) := by decide +kernel
theorem dX12_round_107 : decode cX12_round 107 = .ok (.iconst 0, 1) := by decide +kernel
theorem dX12_round_108 : decode cX12_round 108 = .ok (.aload_n 0, 1) := by decide +kernel
theorem dX12_round_109 : decode cX12_round 109 = .ok (.getfield 108, 3) := by decide +kernel
theorem dX12_round_112 : decode cX12_round 112 = .ok (.iconst 0, 1) := by decide +kernel
theorem dX12_round_113 : decode cX12_round 113 = .ok (.invokestatic 379, 3) := by decide +kernel
theorem dX12_round_116 : decode cX12_round 116 = .ok (.iload_n 2, 1) := by decide +kernel
theorem dX12_round_117 : decode cX12_round 117 = .ok (.bipush 99, 2) := by decide +kernel
theorem dX12_round_119 : decode cX12_round 119 = .ok (.if_icmp .le 7, 3) := by decide +kernel
theorem dX12_round_122 : decode cX12_round 122 = .ok (.iconst (-1), 1) := by decide +kernel
theorem dX12_round_123 : decode cX12_round 123 = .ok (.goto 4, 3) := by decide +kernel
theorem dX12_round_126 : decode cX12_round 126 = .ok (.iload_n 2, 1) := by decide +kernel
theorem dX12_round_127 : decode cX12_round 127 = .ok (.ireturn, 1) := by decide +kernel
theorem dX12_needOf_0 : decode cX12_needOf 0 = .ok (.aload_n 0, 1) := by decide +kernel
theorem dX12_needOf_1 : decode cX12_needOf 1 = .ok (.getfield 108, 3) := by decide +kernel
theorem dX12_needOf_4 : decode cX12_needOf 4 = .ok (.iconst 0, 1) := by decide +kernel
theorem dX12_needOf_5 : decode cX12_needOf 5 = .ok (.aload_n 0, 1) := by decide +kernel
theorem dX12_needOf_6 : decode cX12_needOf 6 = .ok (.getfield 114, 3) := by decide +kernel
theorem dX12_needOf_9 : decode cX12_needOf 9 = .ok (.iconst 0, 1) := by decide +kernel
theorem dX12_needOf_10 : decode cX12_needOf 10 = .ok (.invokestatic 379, 3) := by decide +kernel
theorem dX12_needOf_13 : decode cX12_needOf 13 = .ok (.aload_n 0, 1) := by decide +kernel
theorem dX12_needOf_14 : decode cX12_needOf 14 = .ok (.getfield 29, 3) := by decide +kernel
theorem dX12_needOf_17 : decode cX12_needOf 17 = .ok (.iload_n 1, 1) := by decide +kernel
theorem dX12_needOf_18 : decode cX12_needOf 18 = .ok (.iaload, 1) := by decide +kernel
theorem dX12_needOf_19 : decode cX12_needOf 19 = .ok (.iconst 1, 1) := by decide +kernel
theorem dX12_needOf_20 : decode cX12_needOf 20 = .ok (.if_icmp .ne 7, 3) := by decide +kernel
theorem dX12_needOf_23 : decode cX12_needOf 23 = .ok (.iconst 0, 1) := by decide +kernel
theorem dX12_needOf_24 : decode cX12_needOf 24 = .ok (.goto 15, 3) := by decide +kernel
theorem dX12_needOf_27 : decode cX12_needOf 27 = .ok (.bipush 20, 2) := by decide +kernel
theorem dX12_needOf_29 : decode cX12_needOf 29 = .ok (.aload_n 0, 1) := by decide +kernel
theorem dX12_needOf_30 : decode cX12_needOf 30 = .ok (.getfield 108, 3) := by decide +kernel
theorem dX12_needOf_33 : decode cX12_needOf 33 = .ok (.bipush 13, 2) := by decide +kernel
theorem dX12_needOf_35 : decode cX12_needOf 35 = .ok (.iload_n 1, 1) := by decide +kernel
theorem dX12_needOf_36 : decode cX12_needOf 36 = .ok (.iadd, 1) := by decide +kernel
theorem dX12_needOf_37 : decode cX12_needOf 37 = .ok (.iaload, 1) := by decide +kernel
theorem dX12_needOf_38 : decode cX12_needOf 38 = .ok (.isub, 1) := by decide +kernel
theorem dX12_needOf_39 : decode cX12_needOf 39 = .ok (.istore_n 3, 1) := by decide +kernel
theorem dX12_needOf_40 : decode cX12_needOf 40 = .ok (.iconst (-1), 1) := by decide +kernel
theorem dX12_needOf_41 : decode cX12_needOf 41 = .ok (.istore 4, 2) := by decide +kernel
theorem dX12_needOf_43 : decode cX12_needOf 43 = .ok (.iconst 0, 1) := by decide +kernel
theorem dX12_needOf_44 : decode cX12_needOf 44 = .ok (.istore 5, 2) := by decide +kernel
theorem dX12_needOf_46 : decode cX12_needOf 46 = .ok (.iload 5, 2) := by decide +kernel
theorem dX12_needOf_48 : decode cX12_needOf 48 = .ok (.iload_n 3, 1) := by decide +kernel
theorem dX12_needOf_49 : decode cX12_needOf 49 = .ok (.if_icmp .gt 54, 3) := by decide +kernel
theorem dX12_needOf_52 : decode cX12_needOf 52 = .ok (.iload 4, 2) := by decide +kernel
theorem dX12_needOf_54 : decode cX12_needOf 54 = .ok (.ifCond .ge 49, 3) := by decide +kernel
theorem dX12_needOf_57 : decode cX12_needOf 57 = .ok (.aload_n 0, 1) := by decide +kernel
theorem dX12_needOf_58 : decode cX12_needOf 58 = .ok (.iload_n 1, 1) := by decide +kernel
theorem dX12_needOf_59 : decode cX12_needOf 59 = .ok (.iconst 1, 1) := by decide +kernel
theorem dX12_needOf_60 : decode cX12_needOf 60 = .ok (.aload_n 0, 1) := by decide +kernel
theorem dX12_needOf_61 : decode cX12_needOf 61 = .ok (.getfield 108, 3) := by decide +kernel
theorem dX12_needOf_64 : decode cX12_needOf 64 = .ok (.iconst 1, 1) := by decide +kernel
theorem dX12_needOf_65 : decode cX12_needOf 65 = .ok (.iload_n 1, 1) := by decide +kernel
theorem dX12_needOf_66 : decode cX12_needOf 66 = .ok (.iadd, 1) := by decide +kernel
theorem dX12_needOf_67 : decode cX12_needOf 67 = .ok (.iaload, 1) := by decide +kernel
theorem dX12_needOf_68 : decode cX12_needOf 68 = .ok (.ishl, 1) := by decide +kernel
theorem dX12_needOf_69 : decode cX12_needOf 69 = .ok (.invokevirtual 419, 3) := by decide +kernel
theorem dX12_needOf_72 : decode cX12_needOf 72 = .ok (.iload_n 2, 1) := by decide +kernel
theorem dX12_needOf_73 : decode cX12_needOf 73 = .ok (.ishr, 1) := by decide +kernel
theorem dX12_needOf_74 : decode cX12_needOf 74 = .ok (.iconst 1, 1) := by decide +kernel
theorem dX12_needOf_75 : decode cX12_needOf 75 = .ok (.iand, 1) := by decide +kernel
theorem dX12_needOf_76 : decode cX12_needOf 76 = .ok (.iconst 1, 1) := by decide +kernel
theorem dX12_needOf_77 : decode cX12_needOf 77 = .ok (.if_icmp .ne 7, 3) := by decide +kernel
theorem dX12_needOf_80 : decode cX12_needOf 80 = .ok (.iload 5, 2) := by decide +kernel
theorem dX12_needOf_82 : decode cX12_needOf 82 = .ok (.istore 4, 2) := by decide +kernel
theorem dX12_needOf_84 : decode cX12_needOf 84 = .ok (.aload_n 0, 1) := by decide +kernel
theorem dX12_needOf_85 : decode cX12_needOf 85 = .ok (.getfield 108, 3) := by decide +kernel
theorem dX12_needOf_88 : decode cX12_needOf 88 = .ok (.bipush 13, 2) := by decide +kernel
theorem dX12_needOf_90 : decode cX12_needOf 90 = .ok (.iload_n 1, 1) := by decide +kernel
theorem dX12_needOf_91 : decode cX12_needOf 91 = .ok (.iadd, 1) := by decide +kernel
theorem dX12_needOf_92 : decode cX12_needOf 92 = .ok (.dup2, 1) := by decide +kernel
theorem dX12_needOf_93 : decode cX12_needOf 93 = .ok (.iaload, 1) := by decide +kernel
