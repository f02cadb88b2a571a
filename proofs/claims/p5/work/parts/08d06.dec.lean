theorem dX12_town_33 : decode cX12_town 33 = .ok (.iaload, 1) := by decide +kernel
theorem dX12_town_34 : decode cX12_town 34 = .ok (.goto 22, 3) := by decide +kernel
theorem dX12_town_37 : decode cX12_town 37 = .ok (.iload_n 2, 1) := by decide +kernel
theorem dX12_town_38 : decode cX12_town 38 = .ok (.iconst 1, 1) := by decide +kernel
theorem dX12_town_39 : decode cX12_town 39 = .ok (.if_icmp .ne 12, 3) := by decide +kernel
theorem dX12_town_42 : decode cX12_town 42 = .ok (.aload_n 0, 1) := by decide +kernel
theorem dX12_town_43 : decode cX12_town 43 = .ok (.getfield 26, 3) := by decide +kernel
theorem dX12_town_46 : decode cX12_town 46 = .ok (.iload_n 1, 1) := by decide +kernel
theorem dX12_town_47 : decode cX12_town 47 = .ok (.iaload, 1) := by decide +kernel
theorem dX12_town_48 : decode cX12_town 48 = .ok (.goto 8, 3) := by decide +kernel
theorem dX12_town_51 : decode cX12_town 51 = .ok (.aload_n 0, 1) := by decide +kernel
theorem dX12_town_52 : decode cX12_town 52 = .ok (.iload_n 1, 1) := by decide +kernel
theorem dX12_town_53 : decode cX12_town 53 = .ok (.invokevirtual 376, 3) := by decide +kernel
theorem dX12_town_56 : decode cX12_town 56 = .ok (.ireturn, 1) := by decide +kernel
theorem dX12_keeps_0 : decode cX12_keeps 0 = .ok (.aload_n 0, 1) := by decide +kernel
theorem dX12_keeps_1 : decode cX12_keeps 1 = .ok (.getfield 336, 3) := by decide +kernel
theorem dX12_keeps_4 : decode cX12_keeps 4 = .ok (.bipush 16, 2) := by decide +kernel
theorem dX12_keeps_6 : decode cX12_keeps 6 = .ok (.if_icmp .ne 43, 3) := by decide +kernel
theorem dX12_keeps_9 : decode cX12_keeps 9 = .ok (.iconst 0, 1) := by decide +kernel
theorem dX12_keeps_10 : decode cX12_keeps 10 = .ok (.istore_n 1, 1) := by decide +kernel
theorem dX12_keeps_11 : decode cX12_keeps 11 = .ok (.iload_n 1, 1) := by decide +kernel
theorem dX12_keeps_12 : decode cX12_keeps 12 = .ok (.sipush 465, 3) := by decide +kernel
theorem dX12_keeps_15 : decode cX12_keeps 15 = .ok (.if_icmp .ge 24, 3) := by decide +kernel
theorem dX12_keeps_18 : decode cX12_keeps 18 = .ok (.aload_n 0, 1) := by decide +kernel
theorem dX12_keeps_19 : decode cX12_keeps 19 = .ok (.getfield 120, 3) := by decide +kernel
theorem dX12_keeps_22 : decode cX12_keeps 22 = .ok (.iload_n 1, 1) := by decide +kernel
theorem dX12_keeps_23 : decode cX12_keeps 23 = .ok (.aload_n 0, 1) := by decide +kernel
theorem dX12_keeps_24 : decode cX12_keeps 24 = .ok (.getfield 120, 3) := by decide +kernel
theorem dX12_keeps_27 : decode cX12_keeps 27 = .ok (.iload_n 1, 1) := by decide +kernel
theorem dX12_keeps_28 : decode cX12_keeps 28 = .ok (.bipush 31, 2) := by decide +kernel
theorem dX12_keeps_30 : decode cX12_keeps 30 = .ok (.iadd, 1) := by decide +kernel
theorem dX12_keeps_31 : decode cX12_keeps 31 = .ok (.iaload, 1) := by decide +kernel
theorem dX12_keeps_32 : decode cX12_keeps 32 = .ok (.iastore, 1) := by decide +kernel
theorem dX12_keeps_33 : decode cX12_keeps 33 = .ok (.iinc 1 1, 3) := by decide +kernel
theorem dX12_keeps_36 : decode cX12_keeps 36 = .ok (.goto (-25), 3) := by decide +kernel
theorem dX12_keeps_39 : decode cX12_keeps 39 = .ok (.aload_n 0, 1) := by decide +kernel
theorem dX12_keeps_40 : decode cX12_keeps 40 = .ok (.dup, 1) := by decide +kernel
theorem dX12_keeps_41 : decode cX12_keeps 41 = .ok (.getfield 336, 3) := by decide +kernel
theorem dX12_keeps_44 : decode cX12_keeps 44 = .ok (.iconst 1, 1) := by decide +kernel
theorem dX12_keeps_45 : decode cX12_keeps 45 = .ok (.isub, 1) := by decide +kernel
theorem dX12_keeps_46 : decode cX12_keeps 46 = .ok (.putfield 336, 3) := by decide +kernel
theorem dX12_keeps_49 : decode cX12_keeps 49 = .ok (.aload_n 0, 1) := by decide +kernel
theorem dX12_keeps_50 : decode cX12_keeps 50 = .ok (.getfield 108, 3) := by decide +kernel
theorem dX12_keeps_53 : decode cX12_keeps 53 = .ok (.iconst 0, 1) := by decide +kernel
theorem dX12_keeps_54 : decode cX12_keeps 54 = .ok (.aload_n 0, 1) := by decide +kernel
theorem dX12_keeps_55 : decode cX12_keeps 55 = .ok (.getfield 120, 3) := by decide +kernel
theorem dX12_keeps_58 : decode cX12_keeps 58 = .ok (.bipush 31, 2) := by decide +kernel
theorem dX12_keeps_60 : decode cX12_keeps 60 = .ok (.aload_n 0, 1) := by decide +kernel
theorem dX12_keeps_61 : decode cX12_keeps 61 = .ok (.getfield 336, 3) := by decide +kernel
theorem dX12_keeps_64 : decode cX12_keeps 64 = .ok (.imul, 1) := by decide +kernel
theorem dX12_keeps_65 : decode cX12_keeps 65 = .ok (.invokestatic 379, 3) := by decide +kernel
theorem dX12_keeps_68 : decode cX12_keeps 68 = .ok (.aload_n 0, 1) := by decide +kernel
theorem dX12_keeps_69 : decode cX12_keeps 69 = .ok (.dup, 1) := by decide +kernel
theorem dX12_keeps_70 : decode cX12_keeps 70 = .ok (.getfield 336, 3) := by decide +kernel
theorem dX12_keeps_73 : decode cX12_keeps 73 = .ok (.iconst 1, 1) := by decide +kernel
theorem dX12_keeps_74 : decode cX12_keeps 74 = .ok (.iadd, 1) := by decide +kernel
theorem dX12_keeps_75 : decode cX12_keeps 75 = .ok (.putfield 336, 3) := by decide +kernel
theorem dX12_keeps_78 : decode cX12_keeps 78 = .ok (.return_, 1) := by decide +kernel
theorem dX12_go_0 : decode cX12_go 0 = .ok (.aload_n 0, 1) := by decide +kernel
theorem dX12_go_1 : decode cX12_go 1 = .ok (.iconst 0, 1) := by decide +kernel
theorem dX12_go_2 : decode cX12_go 2 = .ok (.putfield 129, 3) := by decide +kernel
theorem dX12_go_5 : decode cX12_go 5 = .ok (.aload_n 0, 1) := by decide +kernel
theorem dX12_go_6 : decode cX12_go 6 = .ok (.iload_n 1, 1) := by decide +kernel
theorem dX12_go_7 : decode cX12_go 7 = .ok (.invokevirtual 370, 3) := by decide +kernel
theorem dX12_go_10 : decode cX12_go 10 = .ok (.ifCond .eq 20, 3) := by decide +kernel
theorem dX12_go_13 : decode cX12_go 13 = .ok (.aload_n 0, 1) := by decide +kernel
theorem dX12_go_14 : decode cX12_go 14 = .ok (.iload_n 2, 1) := by decide +kernel
theorem dX12_go_15 : decode cX12_go 15 = .ok (.invokevirtual 373, 3) := by decide +kernel
theorem dX12_go_18 : decode cX12_go 18 = .ok (.ifCond .eq 12, 3) := by decide +kernel
theorem dX12_go_21 : decode cX12_go 21 = .ok (.aload_n 0, 1) := by decide +kernel
theorem dX12_go_22 : decode cX12_go 22 = .ok (.iload_n 1, 1) := by decide +kernel
theorem dX12_go_23 : decode cX12_go 23 = .ok (.iload_n 2, 1) := by decide +kernel
theorem dX12_go_24 : decode cX12_go 24 = .ok (.invokevirtual 383, 3) := by decide +kernel
theorem dX12_go_27 : decode cX12_go 27 = .ok (.ifCond .ne 5, 3) := by decide +kernel
theorem dX12_go_30 : decode cX12_go 30 = .ok (.iconst 0, 1) := by decide +kernel
theorem dX12_go_31 : decode cX12_go 31 = .ok (.ireturn, 1) := by decide +kernel
theorem dX12_go_32 : decode cX12_go 32 = .ok (.aload_n 0, 1) := by decide +kernel
theorem dX12_go_33 : decode cX12_go 33 = .ok (.invokevirtual 386, 3) := by decide +kernel
theorem dX12_go_36 : decode cX12_go 36 = .ok (.aload_n 0, 1) := by decide +kernel
theorem dX12_go_37 : decode cX12_go 37 = .ok (.iload_n 1, 1) := by decide +kernel
theorem dX12_go_38 : decode cX12_go 38 = .ok (.iload_n 2, 1) := by decide +kernel
theorem dX12_go_39 : decode cX12_go 39 = .ok (.invokevirtual 389, 3) := by decide +kernel
theorem dX12_go_42 : decode cX12_go 42 = .ok (.iconst 1, 1) := by decide +kernel
theorem dX12_go_43 : decode cX12_go 43 = .ok (.ireturn, 1) := by decide +kernel
theorem dX12_forge_0 : decode cX12_forge 0 = .ok (.aload_n 0, 1) := by decide +kernel
theorem dX12_forge_1 : decode cX12_forge 1 = .ok (.iconst 0, 1) := by decide +kernel
theorem dX12_forge_2 : decode cX12_forge 2 = .ok (.putfield 129, 3) := by decide +kernel
theorem dX12_forge_5 : decode cX12_forge 5 = .ok (.aload_n 0, 1) := by decide +kernel
theorem dX12_forge_6 : decode cX12_forge 6 = .ok (.iload_n 1, 1) := by decide +kernel
theorem dX12_forge_7 : decode cX12_forge 7 = .ok (.invokevirtual 370, 3) := by decide +kernel
theorem dX12_forge_10 : decode cX12_forge 10 = .ok (.ifCond .eq 22, 3) := by decide +kernel
theorem dX12_forge_13 : decode cX12_forge 13 = .ok (.iload_n 2, 1) := by decide +kernel
theorem dX12_forge_14 : decode cX12_forge 14 = .ok (.iconst 1, 1) := by decide +kernel
theorem dX12_forge_15 : decode cX12_forge 15 = .ok (.bipush 20, 2) := by decide +kernel
theorem dX12_forge_17 : decode cX12_forge 17 = .ok (.invokestatic 252, 3) := by decide +kernel
theorem dX12_forge_20 : decode cX12_forge 20 = .ok (.ifCond .eq 12, 3) := by decide +kernel
theorem dX12_forge_23 : decode cX12_forge 23 = .ok (.aload_n 0, 1) := by decide +kernel
theorem dX12_forge_24 : decode cX12_forge 24 = .ok (.iload_n 1, 1) := by decide +kernel
theorem dX12_forge_25 : decode cX12_forge 25 = .ok (.iload_n 2, 1) := by decide +kernel
theorem dX12_forge_26 : decode cX12_forge 26 = .ok (.invokevirtual 392, 3) := by decide +kernel
theorem dX12_forge_29 : decode cX12_forge 29 = .ok (.ifCond .ne 5, 3) := by decide +kernel
theorem dX12_forge_32 : decode cX12_forge 32 = .ok (.iconst (-1), 1) := by decide +kernel
theorem dX12_forge_33 : decode cX12_forge 33 = .ok (.ireturn, 1) := by decide +kernel
theorem dX12_forge_34 : decode cX12_forge 34 = .ok (.aload_n 0, 1) := by decide +kernel
theorem dX12_forge_35 : decode cX12_forge 35 = .ok (.invokevirtual 386, 3) := by decide +kernel
theorem dX12_forge_38 : decode cX12_forge 38 = .ok (.aload_n 0, 1) := by decide +kernel
theorem dX12_forge_39 : decode cX12_forge 39 = .ok (.iload_n 1, 1) := by decide +kernel
theorem dX12_forge_40 : decode cX12_forge 40 = .ok (.iload_n 2, 1) := by decide +kernel
theorem dX12_forge_41 : decode cX12_forge 41 = .ok (.invokevirtual 395, 3) := by decide +kernel
theorem dX12_forge_44 : decode cX12_forge 44 = .ok (.aload_n 0, 1) := by decide +kernel
theorem dX12_forge_45 : decode cX12_forge 45 = .ok (.getfield 108, 3) := by decide +kernel
theorem dX12_forge_48 : decode cX12_forge 48 = .ok (.bipush 19, 2) := by decide +kernel
theorem dX12_forge_50 : decode cX12_forge 50 = .ok (.iload_n 1, 1) := by decide +kernel
theorem dX12_forge_51 : decode cX12_forge 51 = .ok (.iadd, 1) := by decide +kernel
theorem dX12_forge_52 : decode cX12_forge 52 = .ok (.iaload, 1) := by decide +kernel
theorem dX12_forge_53 : decode cX12_forge 53 = .ok (.ireturn, 1) := by decide +kernel
theorem dX12_shave_0 : decode cX12_shave 0 = .ok (.aload_n 0, 1) := by decide +kernel
theorem dX12_shave_1 : decode cX12_shave 1 = .ok (.iconst 0, 1) := by decide +kernel
theorem dX12_shave_2 : decode cX12_shave 2 = .ok (.putfield 129, 3) := by decide +kernel
theorem dX12_shave_5 : decode cX12_shave 5 = .ok (.aload_n 0, 1) := by decide +kernel
theorem dX12_shave_6 : decode cX12_shave 6 = .ok (.iload_n 1, 1) := by decide +kernel
theorem dX12_shave_7 : decode cX12_shave 7 = .ok (.invokevirtual 370, 3) := by decide +kernel
theorem dX12_shave_10 : decode cX12_shave 10 = .ok (.ifCond .ne 5, 3) := by decide +kernel
theorem dX12_shave_13 : decode cX12_shave 13 = .ok (.iconst 0, 1) := by decide +kernel
theorem dX12_shave_14 : decode cX12_shave 14 = .ok (.ireturn, 1) := by decide +kernel
theorem dX12_shave_15 : decode cX12_shave 15 = .ok (.aload_n 0, 1) := by decide +kernel
theorem dX12_shave_16 : decode cX12_shave 16 = .ok (.invokevirtual 386, 3) := by decide +kernel
theorem dX12_shave_19 : decode cX12_shave 19 = .ok (.aload_n 0, 1) := by decide +kernel
theorem dX12_shave_20 : decode cX12_shave 20 = .ok (.iload_n 1, 1) := by decide +kernel
theorem dX12_shave_21 : decode cX12_shave 21 = .ok (.invokevirtual 398, 3) := by decide +kernel
theorem dX12_shave_24 : decode cX12_shave 24 = .ok (.iconst 1, 1) := by decide +kernel
theorem dX12_shave_25 : decode cX12_shave 25 = .ok (.ireturn, 1) := by decide +kernel
theorem dX12_week_0 : decode cX12_week 0 = .ok (.aload_n 0, 1) := by decide +kernel
theorem dX12_week_1 : decode cX12_week 1 = .ok (.iconst 0, 1) := by decide +kernel
theorem dX12_week_2 : decode cX12_week 2 = .ok (.putfield 129, 3) := by decide +kernel
theorem dX12_week_5 : decode cX12_week 5 = .ok (.aload_n 0, 1) := by decide +kernel
theorem dX12_week_6 : decode cX12_week 6 = .ok (.invokevirtual 386, 3) := by decide +kernel
theorem dX12_week_9 : decode cX12_week 9 = .ok (.aload_n 0, 1) := by decide +kernel
theorem dX12_week_10 : decode cX12_week 10 = .ok (.invokevirtual 401, 3) := by decide +kernel
theorem dX12_week_13 : decode cX12_week 13 = .ok (.aload_n 0, 1) := by decide +kernel
theorem dX12_week_14 : decode cX12_week 14 = .ok (.getfield 108, 3) := by decide +kernel
theorem dX12_week_17 : decode cX12_week 17 = .ok (.iconst 0, 1) := by decide +kernel
theorem dX12_week_18 : decode cX12_week 18 = .ok (.iaload, 1) := by decide +kernel
theorem dX12_week_19 : decode cX12_week 19 = .ok (.ireturn, 1) := by decide +kernel
theorem dX12_undo_0 : decode cX12_undo 0 = .ok (.aload_n 0, 1) := by decide +kernel
theorem dX12_undo_1 : decode cX12_undo 1 = .ok (.iconst 0, 1) := by decide +kernel
theorem dX12_undo_2 : decode cX12_undo 2 = .ok (.putfield 129, 3) := by decide +kernel
theorem dX12_undo_5 : decode cX12_undo 5 = .ok (.aload_n 0, 1) := by decide +kernel
theorem dX12_undo_6 : decode cX12_undo 6 = .ok (.getfield 336, 3) := by decide +kernel
theorem dX12_undo_9 : decode cX12_undo 9 = .ok (.ifCond .ne 5, 3) := by decide +kernel
theorem dX12_undo_12 : decode cX12_undo 12 = .ok (.iconst 0, 1) := by decide +kernel
theorem dX12_undo_13 : decode cX12_undo 13 = .ok (.ireturn, 1) := by decide +kernel
theorem dX12_undo_14 : decode cX12_undo 14 = .ok (.aload_n 0, 1) := by decide +kernel
theorem dX12_undo_15 : decode cX12_undo 15 = .ok (.dup, 1) := by decide +kernel
theorem dX12_undo_16 : decode cX12_undo 16 = .ok (.getfield 336, 3) := by decide +kernel
theorem dX12_undo_19 : decode cX12_undo 19 = .ok (.iconst 1, 1) := by decide +kernel
theorem dX12_undo_20 : decode cX12_undo 20 = .ok (.isub, 1) := by decide +kernel
theorem dX12_undo_21 : decode cX12_undo 21 = .ok (.putfield 336, 3) := by decide +kernel
theorem dX12_undo_24 : decode cX12_undo 24 = .ok (.aload_n 0, 1) := by decide +kernel
theorem dX12_undo_25 : decode cX12_undo 25 = .ok (.getfield 120, 3) := by decide +kernel
theorem dX12_undo_28 : decode cX12_undo 28 = .ok (.bipush 31, 2) := by decide +kernel
theorem dX12_undo_30 : decode cX12_undo 30 = .ok (.aload_n 0, 1) := by decide +kernel
theorem dX12_undo_31 : decode cX12_undo 31 = .ok (.getfield 336, 3) := by decide +kernel
theorem dX12_undo_34 : decode cX12_undo 34 = .ok (.imul, 1) := by decide +kernel
theorem dX12_undo_35 : decode cX12_undo 35 = .ok (.aload_n 0, 1) := by decide +kernel
theorem dX12_undo_36 : decode cX12_undo 36 = .ok (.getfield 108, 3) := by decide +kernel
theorem dX12_undo_39 : decode cX12_undo 39 = .ok (.iconst 0, 1) := by decide +kernel
theorem dX12_undo_40 : decode cX12_undo 40 = .ok (.invokestatic 379, 3) := by decide +kernel
theorem dX12_undo_43 : decode cX12_undo 43 = .ok (.iconst 1, 1) := by decide +kernel
theorem dX12_undo_44 : decode cX12_undo 44 = .ok (.ireturn, 1) := by decide +kernel
theorem dX12_mostAsked_0 : decode cX12_mostAsked 0 = .ok (.iconst 0, 1) := by decide +kernel
theorem dX12_mostAsked_1 : decode cX12_mostAsked 1 = .ok (.istore_n 1, 1) := by decide +kernel
theorem dX12_mostAsked_2 : decode cX12_mostAsked 2 = .ok (.iconst 0, 1) := by decide +kernel
theorem dX12_mostAsked_3 : decode cX12_mostAsked 3 = .ok (.istore_n 2, 1) := by decide +kernel
theorem dX12_mostAsked_4 : decode cX12_mostAsked 4 = .ok (.iload_n 2, 1) := by decide +kernel
theorem dX12_mostAsked_5 : decode cX12_mostAsked 5 = .ok (.aload_n 0, 1) := by decide +kernel
theorem dX12_mostAsked_6 : decode cX12_mostAsked 6 = .ok (.getfield 13, 3) := by decide +kernel
theorem dX12_mostAsked_9 : decode cX12_mostAsked 9 = .ok (.iconst 0, 1) := by decide +kernel
theorem dX12_mostAsked_10 : decode cX12_mostAsked 10 = .ok (.iaload, 1) := by decide +kernel
theorem dX12_mostAsked_11 : decode cX12_mostAsked 11 = .ok (.if_icmp .ge 20, 3) := by decide +kernel
theorem dX12_mostAsked_14 : decode cX12_mostAsked 14 = .ok (.iload_n 1, 1) := by decide +kernel
theorem dX12_mostAsked_15 : decode cX12_mostAsked 15 = .ok (.aload_n 0, 1) := by decide +kernel
theorem dX12_mostAsked_16 : decode cX12_mostAsked 16 = .ok (.getfield 23, 3) := by decide +kernel
theorem dX12_mostAsked_19 : decode cX12_mostAsked 19 = .ok (.iload_n 2, 1) := by decide +kernel
theorem dX12_mostAsked_20 : decode cX12_mostAsked 20 = .ok (.iaload, 1) := by decide +kernel
theorem dX12_mostAsked_21 : decode cX12_mostAsked 21 = .ok (.invokestatic 404, 3) := by decide +kernel
theorem dX12_mostAsked_24 : decode cX12_mostAsked 24 = .ok (.istore_n 1, 1) := by decide +kernel
theorem dX12_mostAsked_25 : decode cX12_mostAsked 25 = .ok (.iinc 2 1, 3) := by decide +kernel
theorem dX12_mostAsked_28 : decode cX12_mostAsked 28 = .ok (.goto (-24), 3) := by decide +kernel
theorem dX12_mostAsked_31 : decode cX12_mostAsked 31 = .ok (.iload_n 1, 1) := by decide +kernel
theorem dX12_mostAsked_32 : decode cX12_mostAsked 32 = .ok (.ireturn, 1) := by decide +kernel
theorem dX12_follows_0 : decode cX12_follows 0 = .ok (.aload_n 0, 1) := by decide +kernel
theorem dX12_follows_1 : decode cX12_follows 1 = .ok (.getfield 93, 3) := by decide +kernel
theorem dX12_follows_4 : decode cX12_follows 4 = .ok (.iload_n 1, 1) := by decide +kernel
theorem dX12_follows_5 : decode cX12_follows 5 = .ok (.iaload, 1) := by decide +kernel
theorem dX12_follows_6 : decode cX12_follows 6 = .ok (.istore_n 2, 1) := by decide +kernel
theorem dX12_follows_7 : decode cX12_follows 7 = .ok (.aload_n 0, 1) := by decide +kernel
theorem dX12_follows_8 : decode cX12_follows 8 = .ok (.getfield 90, 3) := by decide +kernel
theorem dX12_follows_11 : decode cX12_follows 11 = .ok (.iload_n 1, 1) := by decide +kernel
theorem dX12_follows_12 : decode cX12_follows 12 = .ok (.iaload, 1) := by decide +kernel
theorem dX12_follows_13 : decode cX12_follows 13 = .ok (.istore_n 3, 1) := by decide +kernel
theorem dX12_follows_14 : decode cX12_follows 14 = .ok (.iload_n 3, 1) := by decide +kernel
theorem dX12_follows_15 : decode cX12_follows 15 = .ok (.ifCond .ne 33, 3) := by decide +kernel
theorem dX12_follows_18 : decode cX12_follows 18 = .ok (.aload_n 0, 1) := by decide +kernel
theorem dX12_follows_19 : decode cX12_follows 19 = .ok (.iload_n 2, 1) := by decide +kernel
theorem dX12_follows_20 : decode cX12_follows 20 = .ok (.aload_n 0, 1) := by decide +kernel
theorem dX12_follows_21 : decode cX12_follows 21 = .ok (.getfield 96, 3) := by decide +kernel
theorem dX12_follows_24 : decode cX12_follows 24 = .ok (.iload_n 1, 1) := by decide +kernel
theorem dX12_follows_25 : decode cX12_follows 25 = .ok (.iaload, 1) := by decide +kernel
theorem dX12_follows_26 : decode cX12_follows 26 = .ok (.invokevirtual 383, 3) := by decide +kernel
theorem dX12_follows_29 : decode cX12_follows 29 = .ok (.ifCond .ne 5, 3) := by decide +kernel
theorem dX12_follows_32 : decode cX12_follows 32 = .ok (.iconst 0, 1) := by decide +kernel
theorem dX12_follows_33 : decode cX12_follows 33 = .ok (.ireturn, 1) := by decide +kernel
theorem dX12_follows_34 : decode cX12_follows 34 = .ok (.aload_n 0, 1) := by decide +kernel
theorem dX12_follows_35 : decode cX12_follows 35 = .ok (.iload_n 2, 1) := by decide +kernel
theorem dX12_follows_36 : decode cX12_follows 36 = .ok (.aload_n 0, 1) := by decide +kernel
theorem dX12_follows_37 : decode cX12_follows 37 = .ok (.getfield 96, 3) := by decide +kernel
theorem dX12_follows_40 : decode cX12_follows 40 = .ok (.iload_n 1, 1) := by decide +kernel
theorem dX12_follows_41 : decode cX12_follows 41 = .ok (.iaload, 1) := by decide +kernel
theorem dX12_follows_42 : decode cX12_follows 42 = .ok (.invokevirtual 389, 3) := by decide +kernel
theorem dX12_follows_45 : decode cX12_follows 45 = .ok (.goto 55, 3) := by decide +kernel
theorem dX12_follows_48 : decode cX12_follows 48 = .ok (.iload_n 3, 1) := by decide +kernel
theorem dX12_follows_49 : decode cX12_follows 49 = .ok (.iconst 1, 1) := by decide +kernel
theorem dX12_follows_50 : decode cX12_follows 50 = .ok (.if_icmp .ne 33, 3) := by decide +kernel
theorem dX12_follows_53 : decode cX12_follows 53 = .ok (.aload_n 0, 1) := by decide +kernel
theorem dX12_follows_54 : decode cX12_follows 54 = .ok (.iload_n 2, 1) := by decide +kernel
theorem dX12_follows_55 : decode cX12_follows 55 = .ok (.aload_n 0, 1) := by decide +kernel
theorem dX12_follows_56 : decode cX12_follows 56 = .ok (.getfield 96, 3) := by decide +kernel
theorem dX12_follows_59 : decode cX12_follows 59 = .ok (.iload_n 1, 1) := by decide +kernel
theorem dX12_follows_60 : decode cX12_follows 60 = .ok (.iaload, 1) := by decide +kernel
theorem dX12_follows_61 : decode cX12_follows 61 = .ok (.invokevirtual 392, 3) := by decide +kernel
theorem dX12_follows_64 : decode cX12_follows 64 = .ok (.ifCond .ne 5, 3) := by decide +kernel
theorem dX12_follows_67 : decode cX12_follows 67 = .ok (.iconst 0, 1) := by decide +kernel
theorem dX12_follows_68 : decode cX12_follows 68 = .ok (.ireturn, 1) := by decide +kernel
theorem dX12_follows_69 : decode cX12_follows 69 = .ok (.aload_n 0, 1) := by decide +kernel
theorem dX12_follows_70 : decode cX12_follows 70 = .ok (.iload_n 2, 1) := by decide +kernel
theorem dX12_follows_71 : decode cX12_follows 71 = .ok (.aload_n 0, 1) := by decide +kernel
theorem dX12_follows_72 : decode cX12_follows 72 = .ok (.getfield 96, 3) := by decide +kernel
theorem dX12_follows_75 : decode cX12_follows 75 = .ok (.iload_n 1, 1) := by decide +kernel
theorem dX12_follows_76 : decode cX12_follows 76 = .ok (.iaload, 1) := by decide +kernel
theorem dX12_follows_77 : decode cX12_follows 77 = .ok (.invokevirtual 395, 3) := by decide +kernel
theorem dX12_follows_80 : decode cX12_follows 80 = .ok (.goto 20, 3) := by decide +kernel
theorem dX12_follows_83 : decode cX12_follows 83 = .ok (.iload_n 3, 1) := by decide +kernel
theorem dX12_follows_84 : decode cX12_follows 84 = .ok (.iconst 2, 1) := by decide +kernel
theorem dX12_follows_85 : decode cX12_follows 85 = .ok (.if_icmp .ne 11, 3) := by decide +kernel
theorem dX12_follows_88 : decode cX12_follows 88 = .ok (.aload_n 0, 1) := by decide +kernel
theorem dX12_follows_89 : decode cX12_follows 89 = .ok (.iload_n 2, 1) := by decide +kernel
theorem dX12_follows_90 : decode cX12_follows 90 = .ok (.invokevirtual 398, 3) := by decide +kernel
theorem dX12_follows_93 : decode cX12_follows 93 = .ok (.goto 7, 3) := by decide +kernel
theorem dX12_follows_96 : decode cX12_follows 96 = .ok (.aload_n 0, 1) := by decide +kernel
theorem dX12_follows_97 : decode cX12_follows 97 = .ok (.invokevirtual 401, 3) := by decide +kernel
theorem dX12_follows_100 : decode cX12_follows 100 = .ok (.iconst 1, 1) := by decide +kernel
theorem dX12_follows_101 : decode cX12_follows 101 = .ok (.ireturn, 1) := by decide +kernel
theorem dX12_judged_0 : decode cX12_judged 0 = .ok (.aload_n 0, 1) := by decide +kernel
theorem dX12_judged_1 : decode cX12_judged 1 = .ok (.iconst 0, 1) := by decide +kernel
theorem dX12_judged_2 : decode cX12_judged 2 = .ok (.putfield 129, 3) := by decide +kernel
theorem dX12_judged_5 : decode cX12_judged 5 = .ok (.iload_n 1, 1) := by decide +kernel
theorem dX12_judged_6 : decode cX12_judged 6 = .ok (.iconst 0, 1) := by decide +kernel
theorem dX12_judged_7 : decode cX12_judged 7 = .ok (.iconst 2, 1) := by decide +kernel
theorem dX12_judged_8 : decode cX12_judged 8 = .ok (.invokestatic 252, 3) := by decide +kernel
theorem dX12_judged_11 : decode cX12_judged 11 = .ok (.ifCond .ne 6, 3) := by decide +kernel
theorem dX12_judged_14 : decode cX12_judged 14 = .ok (.bipush (-2), 2) := by decide +kernel
theorem dX12_judged_16 : decode cX12_judged 16 = .ok (.ireturn, 1) := by decide +kernel
theorem dX12_judged_17 : decode cX12_judged 17 = .ok (.aload_n 0, 1) := by decide +kernel
theorem dX12_judged_18 : decode cX12_judged 18 = .ok (.getfield 108, 3) := by decide +kernel
theorem dX12_judged_21 : decode cX12_judged 21 = .ok (.iconst 0, 1) := by decide +kernel
theorem dX12_judged_22 : decode cX12_judged 22 = .ok (.aload_n 0, 1) := by decide +kernel
theorem dX12_judged_23 : decode cX12_judged 23 = .ok (.getfield 111, 3) := by decide +kernel
theorem dX12_judged_26 : decode cX12_judged 26 = .ok (.iconst 0, 1) := by decide +kernel
theorem dX12_judged_27 : decode cX12_judged 27 = .ok (.invokestatic 379, 3) := by decide +kernel
theorem dX12_judged_30 : decode cX12_judged 30 = .ok (.aload_n 0, 1) := by decide +kernel
theorem dX12_judged_31 : decode cX12_judged 31 = .ok (.invokevirtual 333, 3) := by decide +kernel
theorem dX12_judged_34 : decode cX12_judged 34 = .ok (.aload_n 0, 1) := by decide +kernel
theorem dX12_judged_35 : decode cX12_judged 35 = .ok (.bipush 19, 2) := by decide +kernel
theorem dX12_judged_37 : decode cX12_judged 37 = .ok (.invokevirtual 407, 3) := by decide +kernel
theorem dX12_judged_40 : decode cX12_judged 40 = .ok (.istore_n 2, 1) := by decide +kernel
theorem dX12_judged_41 : decode cX12_judged 41 = .ok (.iconst (-1), 1) := by decide +kernel
theorem dX12_judged_42 : decode cX12_judged 42 = .ok (.istore_n 3, 1) := by decide +kernel
theorem dX12_judged_43 : decode cX12_judged 43 = .ok (.iconst (-1), 1) := by decide +kernel
theorem dX12_judged_44 : decode cX12_judged 44 = .ok (.istore 4, 2) := by decide +kernel
theorem dX12_judged_46 : decode cX12_judged 46 = .ok (.iconst 0, 1) := by decide +kernel
theorem dX12_judged_47 : decode cX12_judged 47 = .ok (.istore 5, 2) := by decide +kernel
theorem dX12_judged_49 : decode cX12_judged 49 = .ok (.iload 5, 2) := by decide +kernel
theorem dX12_judged_51 : decode cX12_judged 51 = .ok (.aload_n 0, 1) := by decide +kernel
theorem dX12_judged_52 : decode cX12_judged 52 = .ok (.getfield 87, 3) := by decide +kernel
theorem dX12_judged_55 : decode cX12_judged 55 = .ok (.iconst 0, 1) := by decide +kernel
theorem dX12_judged_56 : decode cX12_judged 56 = .ok (.iaload, 1) := by decide +kernel
theorem dX12_judged_57 : decode cX12_judged 57 = .ok (.if_icmp .ge 72, 3) := by decide +kernel
theorem dX12_judged_60 : decode cX12_judged 60 = .ok (.aload_n 0, 1) := by decide +kernel
theorem dX12_judged_61 : decode cX12_judged 61 = .ok (.iload 5, 2) := by decide +kernel
theorem dX12_judged_63 : decode cX12_judged 63 = .ok (.invokevirtual 410, 3) := by decide +kernel
theorem dX12_judged_66 : decode cX12_judged 66 = .ok (.istore 6, 2) := by decide +kernel
theorem dX12_judged_68 : decode cX12_judged 68 = .ok (.iload 6, 2) := by decide +kernel
theorem dX12_judged_70 : decode cX12_judged 70 = .ok (.ifCond .ne 10, 3) := by decide +kernel
theorem dX12_judged_73 : decode cX12_judged 73 = .ok (.iload_n 3, 1) := by decide +kernel
theorem dX12_judged_74 : decode cX12_judged 74 = .ok (.ifCond .ge 6, 3) := by decide +kernel
theorem dX12_judged_77 : decode cX12_judged 77 = .ok (.iload 5, 2) := by decide +kernel
theorem dX12_judged_79 : decode cX12_judged 79 = .ok (.istore_n 3, 1) := by decide +kernel
theorem dX12_judged_80 : decode cX12_judged 80 = .ok (.iload 6, 2) := by decide +kernel
theorem dX12_judged_82 : decode cX12_judged 82 = .ok (.ifCond .eq 41, 3) := by decide +kernel
theorem dX12_judged_85 : decode cX12_judged 85 = .ok (.aload_n 0, 1) := by decide +kernel
theorem dX12_judged_86 : decode cX12_judged 86 = .ok (.getfield 90, 3) := by decide +kernel
theorem dX12_judged_89 : decode cX12_judged 89 = .ok (.iload 5, 2) := by decide +kernel
theorem dX12_judged_91 : decode cX12_judged 91 = .ok (.iaload, 1) := by decide +kernel
theorem dX12_judged_92 : decode cX12_judged 92 = .ok (.ifCond .ne 31, 3) := by decide +kernel
theorem dX12_judged_95 : decode cX12_judged 95 = .ok (.iload 4, 2) := by decide +kernel
theorem dX12_judged_97 : decode cX12_judged 97 = .ok (.ifCond .ge 26, 3) := by decide +kernel
theorem dX12_judged_100 : decode cX12_judged 100 = .ok (.aload_n 0, 1) := by decide +kernel
theorem dX12_judged_101 : decode cX12_judged 101 = .ok (.getfield 23, 3) := by decide +kernel
theorem dX12_judged_104 : decode cX12_judged 104 = .ok (.aload_n 0, 1) := by decide +kernel
theorem dX12_judged_105 : decode cX12_judged 105 = .ok (.getfield 96, 3) := by decide +kernel
theorem dX12_judged_108 : decode cX12_judged 108 = .ok (.iload 5, 2) := by decide +kernel
theorem dX12_judged_110 : decode cX12_judged 110 = .ok (.iaload, 1) := by decide +kernel
theorem dX12_judged_111 : decode cX12_judged 111 = .ok (.iaload, 1) := by decide +kernel
theorem dX12_judged_112 : decode cX12_judged 112 = .ok (.aload_n 0, 1) := by decide +kernel
theorem dX12_judged_113 : decode cX12_judged 113 = .ok (.invokevirtual 413, 3) := by decide +kernel
theorem dX12_judged_116 : decode cX12_judged 116 = .ok (.if_icmp .ne 7, 3) := by decide +kernel
theorem dX12_judged_119 : decode cX12_judged 119 = .ok (.iload 5, 2) := by decide +kernel
theorem dX12_judged_121 : decode cX12_judged 121 = .ok (.istore 4, 2) := by decide +kernel
theorem dX12_judged_123 : decode cX12_judged 123 = .ok (.iinc 5 1, 3) := by decide +kernel
theorem dX12_judged_126 : decode cX12_judged 126 = .ok (.goto (-77), 3) := by decide +kernel
theorem dX12_judged_129 : decode cX12_judged 129 = .ok (.iload_n 2, 1) := by decide +kernel
theorem dX12_judged_130 : decode cX12_judged 130 = .ok (.aload_n 0, 1) := by decide +kernel
theorem dX12_judged_131 : decode cX12_judged 131 = .ok (.bipush 19, 2) := by decide +kernel
theorem dX12_judged_133 : decode cX12_judged 133 = .ok (.invokevirtual 407, 3) := by decide +kernel
theorem dX12_judged_136 : decode cX12_judged 136 = .ok (.isub, 1) := by decide +kernel
theorem dX12_judged_137 : decode cX12_judged 137 = .ok (.istore 5, 2) := by decide +kernel
theorem dX12_judged_139 : decode cX12_judged 139 = .ok (.aload_n 0, 1) := by decide +kernel
theorem dX12_judged_140 : decode cX12_judged 140 = .ok (.getfield 111, 3) := by decide +kernel
theorem dX12_judged_143 : decode cX12_judged 143 = .ok (.iconst 0, 1) := by decide +kernel
theorem dX12_judged_144 : decode cX12_judged 144 = .ok (.aload_n 0, 1) := by decide +kernel
theorem dX12_judged_145 : decode cX12_judged 145 = .ok (.getfield 108, 3) := by decide +kernel
theorem dX12_judged_148 : decode cX12_judged 148 = .ok (.iconst 0, 1) := by decide +kernel
theorem dX12_judged_149 : decode cX12_judged 149 = .ok (.invokestatic 379, 3) := by decide +kernel
theorem dX12_judged_152 : decode cX12_judged 152 = .ok (.iload_n 1, 1) := by decide +kernel
theorem dX12_judged_153 : decode cX12_judged 153 = .ok (.ifCond .ne 7, 3) := by decide +kernel
theorem dX12_judged_156 : decode cX12_judged 156 = .ok (.iload_n 3, 1) := by decide +kernel
theorem dX12_judged_157 : decode cX12_judged 157 = .ok (.goto 15, 3) := by decide +kernel
theorem dX12_judged_160 : decode cX12_judged 160 = .ok (.iload_n 1, 1) := by decide +kernel
theorem dX12_judged_161 : decode cX12_judged 161 = .ok (.iconst 1, 1) := by decide +kernel
theorem dX12_judged_162 : decode cX12_judged 162 = .ok (.if_icmp .ne 8, 3) := by decide +kernel
theorem dX12_judged_165 : decode cX12_judged 165 = .ok (.iload 4, 2) := by decide +kernel
theorem dX12_judged_167 : decode cX12_judged 167 = .ok (.goto 5, 3) := by decide +kernel
theorem dX12_judged_170 : decode cX12_judged 170 = .ok (.iload 5, 2) := by decide +kernel
theorem dX12_judged_172 : decode cX12_judged 172 = .ok (.ireturn, 1) := by decide +kernel
theorem dX12_spreads_0 : decode cX12_spreads 0 = .ok (.iload_n 2, 1) := by decide +kernel
theorem dX12_spreads_1 : decode cX12_spreads 1 = .ok (.istore_n 3, 1) := by decide +kernel
theorem dX12_spreads_2 : decode cX12_spreads 2 = .ok (.iconst 0, 1) := by decide +kernel
theorem dX12_spreads_3 : decode cX12_spreads 3 = .ok (.istore 4, 2) := by decide +kernel
theorem dX12_spreads_5 : decode cX12_spreads 5 = .ok (.iload 4, 2) := by decide +kernel
theorem dX12_spreads_7 : decode cX12_spreads 7 = .ok (.aload_n 0, 1) := by decide +kernel
theorem dX12_spreads_8 : decode cX12_spreads 8 = .ok (.getfield 13, 3) := by decide +kernel
theorem dX12_spreads_11 : decode cX12_spreads 11 = .ok (.iconst 0, 1) := by decide +kernel
theorem dX12_spreads_12 : decode cX12_spreads 12 = .ok (.iaload, 1) := by decide +kernel
theorem dX12_spreads_13 : decode cX12_spreads 13 = .ok (.if_icmp .ge 80, 3) := by decide +kernel
theorem dX12_spreads_16 : decode cX12_spreads 16 = .ok (.iload_n 2, 1) := by decide +kernel
theorem dX12_spreads_17 : decode cX12_spreads 17 = .ok (.iload 4, 2) := by decide +kernel
theorem dX12_spreads_19 : decode cX12_spreads 19 = .ok (.ishr, 1) := by decide +kernel
theorem dX12_spreads_20 : decode cX12_spreads 20 = .ok (.iconst 1, 1) := by decide +kernel
theorem dX12_spreads_21 : decode cX12_spreads 21 = .ok (.iand, 1) := by decide +kernel
theorem dX12_spreads_22 : decode cX12_spreads 22 = .ok (.ifCond .ne 6, 3) := by decide +kernel
theorem dX12_spreads_25 : decode cX12_spreads 25 = .ok (.goto 62, 3) := by decide +kernel
theorem dX12_spreads_28 : decode cX12_spreads 28 = .ok (.iconst 0, 1) := by decide +kernel
theorem dX12_spreads_29 : decode cX12_spreads 29 = .ok (.istore 5, 2) := by decide +kernel
theorem dX12_spreads_31 : decode cX12_spreads 31 = .ok (.iload 5, 2) := by decide +kernel
theorem dX12_spreads_33 : decode cX12_spreads 33 = .ok (.aload_n 0, 1) := by decide +kernel
theorem dX12_spreads_34 : decode cX12_spreads 34 = .ok (.getfield 13, 3) := by decide +kernel
theorem dX12_spreads_37 : decode cX12_spreads 37 = .ok (.iconst 0, 1) := by decide +kernel
theorem dX12_spreads_38 : decode cX12_spreads 38 = .ok (.iaload, 1) := by decide +kernel
theorem dX12_spreads_39 : decode cX12_spreads 39 = .ok (.if_icmp .ge 48, 3) := by decide +kernel
theorem dX12_spreads_42 : decode cX12_spreads 42 = .ok (.iload_n 3, 1) := by decide +kernel
theorem dX12_spreads_43 : decode cX12_spreads 43 = .ok (.aload_n 0, 1) := by decide +kernel
theorem dX12_spreads_44 : decode cX12_spreads 44 = .ok (.getfield 26, 3) := by decide +kernel
theorem dX12_spreads_47 : decode cX12_spreads 47 = .ok (.iload 4, 2) := by decide +kernel
theorem dX12_spreads_49 : decode cX12_spreads 49 = .ok (.iaload, 1) := by decide +kernel
theorem dX12_spreads_50 : decode cX12_spreads 50 = .ok (.iload 5, 2) := by decide +kernel
theorem dX12_spreads_52 : decode cX12_spreads 52 = .ok (.ishr, 1) := by decide +kernel
theorem dX12_spreads_53 : decode cX12_spreads 53 = .ok (.iconst 1, 1) := by decide +kernel
theorem dX12_spreads_54 : decode cX12_spreads 54 = .ok (.iand, 1) := by decide +kernel
theorem dX12_spreads_55 : decode cX12_spreads 55 = .ok (.iconst 1, 1) := by decide +kernel
theorem dX12_spreads_56 : decode cX12_spreads 56 = .ok (.if_icmp .ne 22, 3) := by decide +kernel
theorem dX12_spreads_59 : decode cX12_spreads 59 = .ok (.aload_n 0, 1) := by decide +kernel
theorem dX12_spreads_60 : decode cX12_spreads 60 = .ok (.iload 5, 2) := by decide +kernel
theorem dX12_spreads_62 : decode cX12_spreads 62 = .ok (.iload_n 1, 1) := by decide +kernel
theorem dX12_spreads_63 : decode cX12_spreads 63 = .ok (.iload 4, 2) := by decide +kernel
theorem dX12_spreads_65 : decode cX12_spreads 65 = .ok (.invokevirtual 362, 3) := by decide +kernel
theorem dX12_spreads_68 : decode cX12_spreads 68 = .ok (.ifCond .eq 10, 3) := by decide +kernel
theorem dX12_spreads_71 : decode cX12_spreads 71 = .ok (.iconst 1, 1) := by decide +kernel
theorem dX12_spreads_72 : decode cX12_spreads 72 = .ok (.iload 5, 2) := by decide +kernel
theorem dX12_spreads_74 : decode cX12_spreads 74 = .ok (.ishl, 1) := by decide +kernel
theorem dX12_spreads_75 : decode cX12_spreads 75 = .ok (.goto 4, 3) := by decide +kernel
theorem dX12_spreads_78 : decode cX12_spreads 78 = .ok (.iconst 0, 1) := by decide +kernel
theorem dX12_spreads_79 : decode cX12_spreads 79 = .ok (.ior, 1) := by decide +kernel
theorem dX12_spreads_80 : decode cX12_spreads 80 = .ok (.istore_n 3, 1) := by decide +kernel
theorem dX12_spreads_81 : decode cX12_spreads 81 = .ok (.iinc 5 1, 3) := by decide +kernel
theorem dX12_spreads_84 : decode cX12_spreads 84 = .ok (.goto (-53), 3) := by decide +kernel
theorem dX12_spreads_87 : decode cX12_spreads 87 = .ok (.iinc 4 1, 3) := by decide +kernel
theorem dX12_spreads_90 : decode cX12_spreads 90 = .ok (.goto (-85), 3) := by decide +kernel
theorem dX12_spreads_93 : decode cX12_spreads 93 = .ok (.iload_n 3, 1) := by decide +kernel
theorem dX12_spreads_94 : decode cX12_spreads 94 = .ok (.ireturn, 1) := by decide +kernel
theorem dX12_reachFrom_0 : decode cX12_reachFrom 0 = .ok (.iload_n 2, 1) := by decide +kernel
theorem dX12_reachFrom_1 : decode cX12_reachFrom 1 = .ok (.istore_n 3, 1) := by decide +kernel
theorem dX12_reachFrom_2 : decode cX12_reachFrom 2 = .ok (.iconst 0, 1) := by decide +kernel
theorem dX12_reachFrom_3 : decode cX12_reachFrom 3 = .ok (.istore 4, 2) := by decide +kernel
theorem dX12_reachFrom_5 : decode cX12_reachFrom 5 = .ok (.iload_n 3, 1) := by decide +kernel
theorem dX12_reachFrom_6 : decode cX12_reachFrom 6 = .ok (.iload 4, 2) := by decide +kernel
theorem dX12_reachFrom_8 : decode cX12_reachFrom 8 = .ok (.if_icmp .eq 17, 3) := by decide +kernel
theorem dX12_reachFrom_11 : decode cX12_reachFrom 11 = .ok (.iload_n 3, 1) := by decide +kernel
theorem dX12_reachFrom_12 : decode cX12_reachFrom 12 = .ok (.istore 4, 2) := by decide +kernel
theorem dX12_reachFrom_14 : decode cX12_reachFrom 14 = .ok (.aload_n 0, 1) := by decide +kernel
theorem dX12_reachFrom_15 : decode cX12_reachFrom 15 = .ok (.iload_n 1, 1) := by decide +kernel
theorem dX12_reachFrom_16 : decode cX12_reachFrom 16 = .ok (.iload 4, 2) := by decide +kernel
theorem dX12_reachFrom_18 : decode cX12_reachFrom 18 = .ok (.invokevirtual 416, 3) := by decide +kernel
theorem dX12_reachFrom_21 : decode cX12_reachFrom 21 = .ok (.istore_n 3, 1) := by decide +kernel
theorem dX12_reachFrom_22 : decode cX12_reachFrom 22 = .ok (.goto (-17), 3) := by decide +kernel
theorem dX12_reachFrom_25 : decode cX12_reachFrom 25 = .ok (.iload_n 3, 1) := by decide +kernel
theorem dX12_reachFrom_26 : decode cX12_reachFrom 26 = .ok (.ireturn, 1) := by decide +kernel
theorem dX12_reach_0 : decode cX12_reach 0 = .ok (.aload_n 0, 1) := by decide +kernel
theorem dX12_reach_1 : decode cX12_reach 1 = .ok (.iconst 0, 1) := by decide +kernel
theorem dX12_reach_2 : decode cX12_reach 2 = .ok (.putfield 129, 3) := by decide +kernel
theorem dX12_reach_5 : decode cX12_reach 5 = .ok (.aload_n 0, 1) := by decide +kernel
theorem dX12_reach_6 : decode cX12_reach 6 = .ok (.iload_n 1, 1) := by decide +kernel
theorem dX12_reach_7 : decode cX12_reach 7 = .ok (.invokevirtual 370, 3) := by decide +kernel
theorem dX12_reach_10 : decode cX12_reach 10 = .ok (.ifCond .eq 21, 3) := by decide +kernel
theorem dX12_reach_13 : decode cX12_reach 13 = .ok (.aload_n 0, 1) := by decide +kernel
theorem dX12_reach_14 : decode cX12_reach 14 = .ok (.iload_n 1, 1) := by decide +kernel
theorem dX12_reach_15 : decode cX12_reach 15 = .ok (.iconst 1, 1) := by decide +kernel
theorem dX12_reach_16 : decode cX12_reach 16 = .ok (.aload_n 0, 1) := by decide +kernel
theorem dX12_reach_17 : decode cX12_reach 17 = .ok (.getfield 108, 3) := by decide +kernel
theorem dX12_reach_20 : decode cX12_reach 20 = .ok (.iconst 1, 1) := by decide +kernel
theorem dX12_reach_21 : decode cX12_reach 21 = .ok (.iload_n 1, 1) := by decide +kernel
theorem dX12_reach_22 : decode cX12_reach 22 = .ok (.iadd, 1) := by decide +kernel
theorem dX12_reach_23 : decode cX12_reach 23 = .ok (.iaload, 1) := by decide +kernel
theorem dX12_reach_24 : decode cX12_reach 24 = .ok (.ishl, 1) := by decide +kernel
theorem dX12_reach_25 : decode cX12_reach 25 = .ok (.invokevirtual 419, 3) := by decide +kernel
theorem dX12_reach_28 : decode cX12_reach 28 = .ok (.goto 4, 3) := by decide +kernel
theorem dX12_reach_31 : decode cX12_reach 31 = .ok (.iconst (-1), 1) := by decide +kernel
theorem dX12_reach_32 : decode cX12_reach 32 = .ok (.ireturn, 1) := by decide +kernel
theorem dX12_farFrom_0 : decode cX12_farFrom 0 = .ok (.iconst 1, 1) := by decide +kernel
theorem dX12_farFrom_1 : decode cX12_farFrom 1 = .ok (.iload_n 2, 1) := by decide +kernel
theorem dX12_farFrom_2 : decode cX12_farFrom 2 = .ok (.ishl, 1) := by decide +kernel
theorem dX12_farFrom_3 : decode cX12_farFrom 3 = .ok (.istore 4, 2) := by decide +kernel
theorem dX12_farFrom_5 : decode cX12_farFrom 5 = .ok (.iconst 0, 1) := by decide +kernel
theorem dX12_farFrom_6 : decode cX12_farFrom 6 = .ok (.istore 5, 2) := by decide +kernel
theorem dX12_farFrom_8 : decode cX12_farFrom 8 = .ok (.iload 5, 2) := by decide +kernel
theorem dX12_farFrom_10 : decode cX12_farFrom 10 = .ok (.bipush 6, 2) := by decide +kernel
theorem dX12_farFrom_12 : decode cX12_farFrom 12 = .ok (.if_icmp .ge 31, 3) := by decide +kernel
theorem dX12_farFrom_15 : decode cX12_farFrom 15 = .ok (.iload 4, 2) := by decide +kernel
theorem dX12_farFrom_17 : decode cX12_farFrom 17 = .ok (.iload_n 3, 1) := by decide +kernel
theorem dX12_farFrom_18 : decode cX12_farFrom 18 = .ok (.ishr, 1) := by decide +kernel
