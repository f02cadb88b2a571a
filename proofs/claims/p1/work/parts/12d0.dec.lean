theorem dX9_put_0 : decode cX9_put 0 = .ok (.bipush 56, 2) := by decide +kernel
theorem dX9_put_2 : decode cX9_put 2 = .ok (.istore_n 3, 1) := by decide +kernel
theorem dX9_put_3 : decode cX9_put 3 = .ok (.iload_n 3, 1) := by decide +kernel
theorem dX9_put_4 : decode cX9_put 4 = .ok (.ifCond .lt 84, 3) := by decide +kernel
theorem dX9_put_7 : decode cX9_put 7 = .ok (.lload_n 1, 1) := by decide +kernel
theorem dX9_put_8 : decode cX9_put 8 = .ok (.iload_n 3, 1) := by decide +kernel
theorem dX9_put_9 : decode cX9_put 9 = .ok (.lushr, 1) := by decide +kernel
theorem dX9_put_10 : decode cX9_put 10 = .ok (.ldc2_w 44, 3) := by decide +kernel
theorem dX9_put_13 : decode cX9_put 13 = .ok (.land, 1) := by decide +kernel
theorem dX9_put_14 : decode cX9_put 14 = .ok (.l2i, 1) := by decide +kernel
theorem dX9_put_15 : decode cX9_put 15 = .ok (.istore 4, 2) := by decide +kernel
theorem dX9_put_17 : decode cX9_put 17 = .ok (.iload 4, 2) := by decide +kernel
theorem dX9_put_19 : decode cX9_put 19 = .ok (.bipush 10, 2) := by decide +kernel
theorem dX9_put_21 : decode cX9_put 21 = .ok (.if_icmp .eq 17, 3) := by decide +kernel
theorem dX9_put_24 : decode cX9_put 24 = .ok (.iload 4, 2) := by decide +kernel
theorem dX9_put_26 : decode cX9_put 26 = .ok (.bipush 32, 2) := by decide +kernel
theorem dX9_put_28 : decode cX9_put 28 = .ok (.if_icmp .lt 14, 3) := by decide +kernel
theorem dX9_put_31 : decode cX9_put 31 = .ok (.iload 4, 2) := by decide +kernel
theorem dX9_put_33 : decode cX9_put 33 = .ok (.bipush 126, 2) := by decide +kernel
theorem dX9_put_35 : decode cX9_put 35 = .ok (.if_icmp .gt 7, 3) := by decide +kernel
theorem dX9_put_38 : decode cX9_put 38 = .ok (.iconst 1, 1) := by decide +kernel
theorem dX9_put_39 : decode cX9_put 39 = .ok (.goto 4, 3) := by decide +kernel
theorem dX9_put_42 : decode cX9_put 42 = .ok (.iconst 0, 1) := by decide +kernel
theorem dX9_put_43 : decode cX9_put 43 = .ok (.istore 5, 2) := by decide +kernel
theorem dX9_put_45 : decode cX9_put 45 = .ok (.iload 5, 2) := by decide +kernel
theorem dX9_put_47 : decode cX9_put 47 = .ok (.ifCond .eq 35, 3) := by decide +kernel
theorem dX9_put_50 : decode cX9_put 50 = .ok (.aload_n 0, 1) := by decide +kernel
theorem dX9_put_51 : decode cX9_put 51 = .ok (.getfield 15, 3) := by decide +kernel
theorem dX9_put_54 : decode cX9_put 54 = .ok (.sipush 1000, 3) := by decide +kernel
theorem dX9_put_57 : decode cX9_put 57 = .ok (.if_icmp .ge 25, 3) := by decide +kernel
theorem dX9_put_60 : decode cX9_put 60 = .ok (.aload_n 0, 1) := by decide +kernel
theorem dX9_put_61 : decode cX9_put 61 = .ok (.getfield 9, 3) := by decide +kernel
theorem dX9_put_64 : decode cX9_put 64 = .ok (.aload_n 0, 1) := by decide +kernel
theorem dX9_put_65 : decode cX9_put 65 = .ok (.getfield 15, 3) := by decide +kernel
theorem dX9_put_68 : decode cX9_put 68 = .ok (.iload 4, 2) := by decide +kernel
theorem dX9_put_70 : decode cX9_put 70 = .ok (.i2c, 1) := by decide +kernel
theorem dX9_put_71 : decode cX9_put 71 = .ok (.castore, 1) := by decide +kernel
theorem dX9_put_72 : decode cX9_put 72 = .ok (.aload_n 0, 1) := by decide +kernel
theorem dX9_put_73 : decode cX9_put 73 = .ok (.dup, 1) := by decide +kernel
theorem dX9_put_74 : decode cX9_put 74 = .ok (.getfield 15, 3) := by decide +kernel
theorem dX9_put_77 : decode cX9_put 77 = .ok (.iconst 1, 1) := by decide +kernel
theorem dX9_put_78 : decode cX9_put 78 = .ok (.iadd, 1) := by decide +kernel
theorem dX9_put_79 : decode cX9_put 79 = .ok (.putfield 15, 3) := by decide +kernel
theorem dX9_put_82 : decode cX9_put 82 = .ok (.iinc 3 (-8), 3) := by decide +kernel
theorem dX9_put_85 : decode cX9_put 85 = .ok (.goto (-82), 3) := by decide +kernel
theorem dX9_put_88 : decode cX9_put 88 = .ok (.return_, 1) := by decide +kernel
set_option maxRecDepth 20000 in
theorem ggX11_feed_X9_put : GoodIn wsX11_feed wsX9_put := goodIn_r _ [7, 8, 9, 10, 26, 27, 28, 29, 30, 31, 32, 33] (by decide +kernel) (by decide +kernel)
set_option maxRecDepth 20000 in
theorem gX11_feed_X9_put : GoodIn wsX11_feed (wsV RX11 96 RX9 yX9_put wsX9_put) := goodIn_app (goodIn_of _ (by decide +kernel)) ggX11_feed_X9_put
theorem dX11_feed_0 : decode cX11_feed 0 = .ok (.aload_n 0, 1) := by decide +kernel
theorem dX11_feed_1 : decode cX11_feed 1 = .ok (.getfield 10, 3) := by decide +kernel
theorem dX11_feed_4 : decode cX11_feed 4 = .ok (.lload_n 1, 1) := by decide +kernel
theorem dX11_feed_5 : decode cX11_feed 5 = .ok (.invokevirtual 96, 3) := by decide +kernel
theorem dX11_feed_8 : decode cX11_feed 8 = .ok (.aload_n 0, 1) := by decide +kernel
theorem dX11_feed_9 : decode cX11_feed 9 = .ok (.getfield 10, 3) := by decide +kernel
theorem dX11_feed_12 : decode cX11_feed 12 = .ok (.lload_n 3, 1) := by decide +kernel
theorem dX11_feed_13 : decode cX11_feed 13 = .ok (.invokevirtual 96, 3) := by decide +kernel
theorem dX11_feed_16 : decode cX11_feed 16 = .ok (.aload_n 0, 1) := by decide +kernel
theorem dX11_feed_17 : decode cX11_feed 17 = .ok (.getfield 10, 3) := by decide +kernel
theorem dX11_feed_20 : decode cX11_feed 20 = .ok (.lload 5, 2) := by decide +kernel
theorem dX11_feed_22 : decode cX11_feed 22 = .ok (.invokevirtual 96, 3) := by decide +kernel
theorem dX11_feed_25 : decode cX11_feed 25 = .ok (.aload_n 0, 1) := by decide +kernel
theorem dX11_feed_26 : decode cX11_feed 26 = .ok (.getfield 10, 3) := by decide +kernel
theorem dX11_feed_29 : decode cX11_feed 29 = .ok (.getfield 100, 3) := by decide +kernel
theorem dX11_feed_32 : decode cX11_feed 32 = .ok (.ireturn, 1) := by decide +kernel
theorem dX12_feed_0 : decode cX12_feed 0 = .ok (.aload_n 0, 1) := by decide +kernel
theorem dX12_feed_1 : decode cX12_feed 1 = .ok (.iconst 0, 1) := by decide +kernel
theorem dX12_feed_2 : decode cX12_feed 2 = .ok (.putfield 129, 3) := by decide +kernel
theorem dX12_feed_5 : decode cX12_feed 5 = .ok (.iconst 0, 1) := by decide +kernel
theorem dX12_feed_6 : decode cX12_feed 6 = .ok (.istore 7, 2) := by decide +kernel
theorem dX12_feed_8 : decode cX12_feed 8 = .ok (.iload 7, 2) := by decide +kernel
theorem dX12_feed_10 : decode cX12_feed 10 = .ok (.bipush 24, 2) := by decide +kernel
theorem dX12_feed_12 : decode cX12_feed 12 = .ok (.if_icmp .ge 108, 3) := by decide +kernel
theorem dX12_feed_15 : decode cX12_feed 15 = .ok (.iload 7, 2) := by decide +kernel
theorem dX12_feed_17 : decode cX12_feed 17 = .ok (.bipush 8, 2) := by decide +kernel
theorem dX12_feed_19 : decode cX12_feed 19 = .ok (.if_icmp .ge 7, 3) := by decide +kernel
theorem dX12_feed_22 : decode cX12_feed 22 = .ok (.lload_n 1, 1) := by decide +kernel
theorem dX12_feed_23 : decode cX12_feed 23 = .ok (.goto 16, 3) := by decide +kernel
theorem dX12_feed_26 : decode cX12_feed 26 = .ok (.iload 7, 2) := by decide +kernel
theorem dX12_feed_28 : decode cX12_feed 28 = .ok (.bipush 16, 2) := by decide +kernel
theorem dX12_feed_30 : decode cX12_feed 30 = .ok (.if_icmp .ge 7, 3) := by decide +kernel
theorem dX12_feed_33 : decode cX12_feed 33 = .ok (.lload_n 3, 1) := by decide +kernel
theorem dX12_feed_34 : decode cX12_feed 34 = .ok (.goto 5, 3) := by decide +kernel
theorem dX12_feed_37 : decode cX12_feed 37 = .ok (.lload 5, 2) := by decide +kernel
theorem dX12_feed_39 : decode cX12_feed 39 = .ok (.lstore 8, 2) := by decide +kernel
theorem dX12_feed_41 : decode cX12_feed 41 = .ok (.lload 8, 2) := by decide +kernel
theorem dX12_feed_43 : decode cX12_feed 43 = .ok (.bipush 56, 2) := by decide +kernel
theorem dX12_feed_45 : decode cX12_feed 45 = .ok (.bipush 8, 2) := by decide +kernel
theorem dX12_feed_47 : decode cX12_feed 47 = .ok (.iload 7, 2) := by decide +kernel
theorem dX12_feed_49 : decode cX12_feed 49 = .ok (.bipush 7, 2) := by decide +kernel
theorem dX12_feed_51 : decode cX12_feed 51 = .ok (.iand, 1) := by decide +kernel
theorem dX12_feed_52 : decode cX12_feed 52 = .ok (.imul, 1) := by decide +kernel
theorem dX12_feed_53 : decode cX12_feed 53 = .ok (.isub, 1) := by decide +kernel
theorem dX12_feed_54 : decode cX12_feed 54 = .ok (.lushr, 1) := by decide +kernel
theorem dX12_feed_55 : decode cX12_feed 55 = .ok (.ldc2_w 133, 3) := by decide +kernel
theorem dX12_feed_58 : decode cX12_feed 58 = .ok (.land, 1) := by decide +kernel
theorem dX12_feed_59 : decode cX12_feed 59 = .ok (.l2i, 1) := by decide +kernel
theorem dX12_feed_60 : decode cX12_feed 60 = .ok (.istore 10, 2) := by decide +kernel
theorem dX12_feed_62 : decode cX12_feed 62 = .ok (.aload_n 0, 1) := by decide +kernel
theorem dX12_feed_63 : decode cX12_feed 63 = .ok (.getfield 135, 3) := by decide +kernel
theorem dX12_feed_66 : decode cX12_feed 66 = .ok (.sipush 1000, 3) := by decide +kernel
theorem dX12_feed_69 : decode cX12_feed 69 = .ok (.if_icmp .ge 45, 3) := by decide +kernel
theorem dX12_feed_72 : decode cX12_feed 72 = .ok (.iload 10, 2) := by decide +kernel
theorem dX12_feed_74 : decode cX12_feed 74 = .ok (.bipush 10, 2) := by decide +kernel
theorem dX12_feed_76 : decode cX12_feed 76 = .ok (.if_icmp .eq 17, 3) := by decide +kernel
theorem dX12_feed_79 : decode cX12_feed 79 = .ok (.iload 10, 2) := by decide +kernel
theorem dX12_feed_81 : decode cX12_feed 81 = .ok (.bipush 32, 2) := by decide +kernel
theorem dX12_feed_83 : decode cX12_feed 83 = .ok (.if_icmp .lt 31, 3) := by decide +kernel
theorem dX12_feed_86 : decode cX12_feed 86 = .ok (.iload 10, 2) := by decide +kernel
theorem dX12_feed_88 : decode cX12_feed 88 = .ok (.bipush 126, 2) := by decide +kernel
theorem dX12_feed_90 : decode cX12_feed 90 = .ok (.if_icmp .gt 24, 3) := by decide +kernel
theorem dX12_feed_93 : decode cX12_feed 93 = .ok (.aload_n 0, 1) := by decide +kernel
theorem dX12_feed_94 : decode cX12_feed 94 = .ok (.getfield 7, 3) := by decide +kernel
theorem dX12_feed_97 : decode cX12_feed 97 = .ok (.aload_n 0, 1) := by decide +kernel
theorem dX12_feed_98 : decode cX12_feed 98 = .ok (.getfield 135, 3) := by decide +kernel
theorem dX12_feed_101 : decode cX12_feed 101 = .ok (.iload 10, 2) := by decide +kernel
theorem dX12_feed_103 : decode cX12_feed 103 = .ok (.iastore, 1) := by decide +kernel
theorem dX12_feed_104 : decode cX12_feed 104 = .ok (.aload_n 0, 1) := by decide +kernel
theorem dX12_feed_105 : decode cX12_feed 105 = .ok (.dup, 1) := by decide +kernel
theorem dX12_feed_106 : decode cX12_feed 106 = .ok (.getfield 135, 3) := by decide +kernel
theorem dX12_feed_109 : decode cX12_feed 109 = .ok (.iconst 1, 1) := by decide +kernel
theorem dX12_feed_110 : decode cX12_feed 110 = .ok (.iadd, 1) := by decide +kernel
theorem dX12_feed_111 : decode cX12_feed 111 = .ok (.putfield 135, 3) := by decide +kernel
theorem dX12_feed_114 : decode cX12_feed 114 = .ok (.iinc 7 1, 3) := by decide +kernel
theorem dX12_feed_117 : decode cX12_feed 117 = .ok (.goto (-109), 3) := by decide +kernel
theorem dX12_feed_120 : decode cX12_feed 120 = .ok (.aload_n 0, 1) := by decide +kernel
theorem dX12_feed_121 : decode cX12_feed 121 = .ok (.getfield 135, 3) := by decide +kernel
theorem dX12_feed_124 : decode cX12_feed 124 = .ok (.ireturn, 1) := by decide +kernel
theorem dX12_nextToken_0 : decode cX12_nextToken 0 = .ok (.aload_n 0, 1) := by decide +kernel
theorem dX12_nextToken_1 : decode cX12_nextToken 1 = .ok (.getfield 141, 3) := by decide +kernel
theorem dX12_nextToken_4 : decode cX12_nextToken 4 = .ok (.aload_n 0, 1) := by decide +kernel
theorem dX12_nextToken_5 : decode cX12_nextToken 5 = .ok (.getfield 138, 3) := by decide +kernel
theorem dX12_nextToken_8 : decode cX12_nextToken 8 = .ok (.if_icmp .ge 44, 3) := by decide +kernel
theorem dX12_nextToken_52 : decode cX12_nextToken 52 = .ok (.aload_n 0, 1) := by decide +kernel
theorem dX12_nextToken_53 : decode cX12_nextToken 53 = .ok (.aload_n 0, 1) := by decide +kernel
theorem dX12_nextToken_54 : decode cX12_nextToken 54 = .ok (.getfield 141, 3) := by decide +kernel
theorem dX12_nextToken_57 : decode cX12_nextToken 57 = .ok (.putfield 144, 3) := by decide +kernel
theorem dX12_nextToken_60 : decode cX12_nextToken 60 = .ok (.aload_n 0, 1) := by decide +kernel
theorem dX12_nextToken_61 : decode cX12_nextToken 61 = .ok (.lconst 0, 1) := by decide +kernel
theorem dX12_nextToken_62 : decode cX12_nextToken 62 = .ok (.putfield 147, 3) := by decide +kernel
theorem dX12_nextToken_65 : decode cX12_nextToken 65 = .ok (.aload_n 0, 1) := by decide +kernel
theorem dX12_nextToken_66 : decode cX12_nextToken 66 = .ok (.iconst 0, 1) := by decide +kernel
theorem dX12_nextToken_67 : decode cX12_nextToken 67 = .ok (.putfield 151, 3) := by decide +kernel
theorem dX12_nextToken_70 : decode cX12_nextToken 70 = .ok (.aload_n 0, 1) := by decide +kernel
theorem dX12_nextToken_71 : decode cX12_nextToken 71 = .ok (.getfield 141, 3) := by decide +kernel
theorem dX12_nextToken_74 : decode cX12_nextToken 74 = .ok (.aload_n 0, 1) := by decide +kernel
theorem dX12_nextToken_75 : decode cX12_nextToken 75 = .ok (.getfield 138, 3) := by decide +kernel
theorem dX12_nextToken_78 : decode cX12_nextToken 78 = .ok (.if_icmp .ne 9, 3) := by decide +kernel
theorem dX12_nextToken_81 : decode cX12_nextToken 81 = .ok (.aload_n 0, 1) := by decide +kernel
theorem dX12_nextToken_82 : decode cX12_nextToken 82 = .ok (.iconst 0, 1) := by decide +kernel
theorem dX12_nextToken_83 : decode cX12_nextToken 83 = .ok (.putfield 154, 3) := by decide +kernel
theorem dX12_nextToken_86 : decode cX12_nextToken 86 = .ok (.return_, 1) := by decide +kernel
theorem dX12_begins_0 : decode cX12_begins 0 = .ok (.aload_n 0, 1) := by decide +kernel
theorem dX12_begins_1 : decode cX12_begins 1 = .ok (.aload_n 0, 1) := by decide +kernel
theorem dX12_begins_2 : decode cX12_begins 2 = .ok (.getfield 135, 3) := by decide +kernel
theorem dX12_begins_5 : decode cX12_begins 5 = .ok (.putfield 138, 3) := by decide +kernel
theorem dX12_begins_8 : decode cX12_begins 8 = .ok (.aload_n 0, 1) := by decide +kernel
theorem dX12_begins_9 : decode cX12_begins 9 = .ok (.iconst 0, 1) := by decide +kernel
theorem dX12_begins_10 : decode cX12_begins 10 = .ok (.putfield 135, 3) := by decide +kernel
theorem dX12_begins_13 : decode cX12_begins 13 = .ok (.aload_n 0, 1) := by decide +kernel
theorem dX12_begins_14 : decode cX12_begins 14 = .ok (.iconst 0, 1) := by decide +kernel
theorem dX12_begins_15 : decode cX12_begins 15 = .ok (.putfield 141, 3) := by decide +kernel
theorem dX12_begins_18 : decode cX12_begins 18 = .ok (.aload_n 0, 1) := by decide +kernel
theorem dX12_begins_19 : decode cX12_begins 19 = .ok (.invokevirtual 200, 3) := by decide +kernel
theorem dX12_begins_22 : decode cX12_begins 22 = .ok (.return_, 1) := by decide +kernel
theorem dX12_readsAll_0 : decode cX12_readsAll 0 = .ok (.aload_n 0, 1) := by decide +kernel
theorem dX12_readsAll_1 : decode cX12_readsAll 1 = .ok (.getfield 13, 3) := by decide +kernel
theorem dX12_readsAll_4 : decode cX12_readsAll 4 = .ok (.iconst 4, 1) := by decide +kernel
theorem dX12_readsAll_5 : decode cX12_readsAll 5 = .ok (.iconst 0, 1) := by decide +kernel
theorem dX12_readsAll_6 : decode cX12_readsAll 6 = .ok (.iastore, 1) := by decide +kernel
theorem dX12_readsAll_7 : decode cX12_readsAll 7 = .ok (.aload_n 0, 1) := by decide +kernel
theorem dX12_readsAll_8 : decode cX12_readsAll 8 = .ok (.getfield 13, 3) := by decide +kernel
theorem dX12_readsAll_11 : decode cX12_readsAll 11 = .ok (.iconst 5, 1) := by decide +kernel
theorem dX12_readsAll_12 : decode cX12_readsAll 12 = .ok (.iconst 0, 1) := by decide +kernel
theorem dX12_readsAll_13 : decode cX12_readsAll 13 = .ok (.iastore, 1) := by decide +kernel
theorem dX12_readsAll_14 : decode cX12_readsAll 14 = .ok (.aload_n 0, 1) := by decide +kernel
theorem dX12_readsAll_15 : decode cX12_readsAll 15 = .ok (.getfield 13, 3) := by decide +kernel
theorem dX12_readsAll_18 : decode cX12_readsAll 18 = .ok (.bipush 6, 2) := by decide +kernel
theorem dX12_readsAll_20 : decode cX12_readsAll 20 = .ok (.iconst 1, 1) := by decide +kernel
theorem dX12_readsAll_21 : decode cX12_readsAll 21 = .ok (.iastore, 1) := by decide +kernel
theorem dX12_readsAll_22 : decode cX12_readsAll 22 = .ok (.aload_n 0, 1) := by decide +kernel
theorem dX12_readsAll_23 : decode cX12_readsAll 23 = .ok (.getfield 13, 3) := by decide +kernel
theorem dX12_readsAll_26 : decode cX12_readsAll 26 = .ok (.bipush 7, 2) := by decide +kernel
theorem dX12_readsAll_28 : decode cX12_readsAll 28 = .ok (.iconst 2, 1) := by decide +kernel
theorem dX12_readsAll_29 : decode cX12_readsAll 29 = .ok (.iastore, 1) := by decide +kernel
theorem dX12_readsAll_30 : decode cX12_readsAll 30 = .ok (.aload_n 0, 1) := by decide +kernel
theorem dX12_readsAll_31 : decode cX12_readsAll 31 = .ok (.getfield 41, 3) := by decide +kernel
theorem dX12_readsAll_34 : decode cX12_readsAll 34 = .ok (.iconst 1, 1) := by decide +kernel
theorem dX12_readsAll_35 : decode cX12_readsAll 35 = .ok (.sipush 1000, 3) := by decide +kernel
theorem dX12_readsAll_38 : decode cX12_readsAll 38 = .ok (.iastore, 1) := by decide +kernel
theorem dX12_readsAll_39 : decode cX12_readsAll 39 = .ok (.aload_n 0, 1) := by decide +kernel
theorem dX12_readsAll_40 : decode cX12_readsAll 40 = .ok (.getfield 44, 3) := by decide +kernel
theorem dX12_readsAll_43 : decode cX12_readsAll 43 = .ok (.iconst 1, 1) := by decide +kernel
theorem dX12_readsAll_44 : decode cX12_readsAll 44 = .ok (.sipush 1000, 3) := by decide +kernel
theorem dX12_readsAll_47 : decode cX12_readsAll 47 = .ok (.iastore, 1) := by decide +kernel
theorem dX12_readsAll_48 : decode cX12_readsAll 48 = .ok (.aload_n 0, 1) := by decide +kernel
theorem dX12_readsAll_49 : decode cX12_readsAll 49 = .ok (.iconst 0, 1) := by decide +kernel
theorem dX12_readsAll_50 : decode cX12_readsAll 50 = .ok (.putfield 292, 3) := by decide +kernel
theorem dX12_readsAll_53 : decode cX12_readsAll 53 = .ok (.aload_n 0, 1) := by decide +kernel
theorem dX12_readsAll_54 : decode cX12_readsAll 54 = .ok (.sipush 1000, 3) := by decide +kernel
theorem dX12_readsAll_57 : decode cX12_readsAll 57 = .ok (.putfield 168, 3) := by decide +kernel
theorem dX12_readsAll_60 : decode cX12_readsAll 60 = .ok (.aload_n 0, 1) := by decide +kernel
theorem dX12_readsAll_61 : decode cX12_readsAll 61 = .ok (.invokevirtual 298, 3) := by decide +kernel
theorem dX12_readsAll_64 : decode cX12_readsAll 64 = .ok (.aload_n 0, 1) := by decide +kernel
theorem dX12_readsAll_65 : decode cX12_readsAll 65 = .ok (.getfield 154, 3) := by decide +kernel
theorem dX12_readsAll_68 : decode cX12_readsAll 68 = .ok (.ifCond .eq 127, 3) := by decide +kernel
theorem dX12_readsAll_195 : decode cX12_readsAll 195 = .ok (.iconst 1, 1) := by decide +kernel
theorem dX12_readsAll_196 : decode cX12_readsAll 196 = .ok (.ireturn, 1) := by decide +kernel
set_option maxRecDepth 20000 in
theorem ggX12_lays_X12_shifts : GoodIn wsX12_lays wsX12_shifts := goodIn_r _ [16] (by decide +kernel) (by decide +kernel)
set_option maxRecDepth 20000 in
theorem gX12_lays_X12_shifts : GoodIn wsX12_lays (va_wsS RX12 316 yX12_shifts wsX12_shifts) := goodIn_app (goodIn_of _ (by decide +kernel)) ggX12_lays_X12_shifts
set_option maxRecDepth 20000 in
theorem ggX12_lays_X12_shiftsNames : GoodIn wsX12_lays wsX12_shiftsNames := goodIn_r _ [19] (by decide +kernel) (by decide +kernel)
set_option maxRecDepth 20000 in
theorem gX12_lays_X12_shiftsNames : GoodIn wsX12_lays (va_wsS RX12 320 yX12_shiftsNames wsX12_shiftsNames) := goodIn_app (goodIn_of _ (by decide +kernel)) ggX12_lays_X12_shiftsNames
theorem dX12_lays_0 : decode cX12_lays 0 = .ok (.aload_n 0, 1) := by decide +kernel
theorem dX12_lays_1 : decode cX12_lays 1 = .ok (.getfield 13, 3) := by decide +kernel
theorem dX12_lays_4 : decode cX12_lays 4 = .ok (.iconst 4, 1) := by decide +kernel
theorem dX12_lays_5 : decode cX12_lays 5 = .ok (.invokestatic 316, 3) := by decide +kernel
theorem dX12_lays_8 : decode cX12_lays 8 = .ok (.aload_n 0, 1) := by decide +kernel
theorem dX12_lays_9 : decode cX12_lays 9 = .ok (.getfield 16, 3) := by decide +kernel
theorem dX12_lays_12 : decode cX12_lays 12 = .ok (.invokestatic 320, 3) := by decide +kernel
theorem dX12_lays_15 : decode cX12_lays 15 = .ok (.aload_n 0, 1) := by decide +kernel
theorem dX12_lays_16 : decode cX12_lays 16 = .ok (.getfield 20, 3) := by decide +kernel
theorem dX12_lays_19 : decode cX12_lays 19 = .ok (.invokestatic 320, 3) := by decide +kernel
theorem dX12_lays_22 : decode cX12_lays 22 = .ok (.aload_n 0, 1) := by decide +kernel
theorem dX12_lays_23 : decode cX12_lays 23 = .ok (.getfield 23, 3) := by decide +kernel
theorem dX12_lays_26 : decode cX12_lays 26 = .ok (.bipush 6, 2) := by decide +kernel
theorem dX12_lays_28 : decode cX12_lays 28 = .ok (.invokestatic 316, 3) := by decide +kernel
theorem dX12_lays_31 : decode cX12_lays 31 = .ok (.aload_n 0, 1) := by decide +kernel
theorem dX12_lays_32 : decode cX12_lays 32 = .ok (.getfield 26, 3) := by decide +kernel
theorem dX12_lays_35 : decode cX12_lays 35 = .ok (.bipush 6, 2) := by decide +kernel
theorem dX12_lays_37 : decode cX12_lays 37 = .ok (.invokestatic 316, 3) := by decide +kernel
theorem dX12_lays_40 : decode cX12_lays 40 = .ok (.aload_n 0, 1) := by decide +kernel
theorem dX12_lays_41 : decode cX12_lays 41 = .ok (.getfield 29, 3) := by decide +kernel
theorem dX12_lays_44 : decode cX12_lays 44 = .ok (.bipush 6, 2) := by decide +kernel
theorem dX12_lays_46 : decode cX12_lays 46 = .ok (.invokestatic 316, 3) := by decide +kernel
theorem dX12_lays_49 : decode cX12_lays 49 = .ok (.aload_n 0, 1) := by decide +kernel
theorem dX12_lays_50 : decode cX12_lays 50 = .ok (.getfield 32, 3) := by decide +kernel
theorem dX12_lays_53 : decode cX12_lays 53 = .ok (.bipush 6, 2) := by decide +kernel
theorem dX12_lays_55 : decode cX12_lays 55 = .ok (.invokestatic 316, 3) := by decide +kernel
theorem dX12_lays_58 : decode cX12_lays 58 = .ok (.aload_n 0, 1) := by decide +kernel
theorem dX12_lays_59 : decode cX12_lays 59 = .ok (.getfield 35, 3) := by decide +kernel
theorem dX12_lays_62 : decode cX12_lays 62 = .ok (.bipush 6, 2) := by decide +kernel
theorem dX12_lays_64 : decode cX12_lays 64 = .ok (.invokestatic 316, 3) := by decide +kernel
theorem dX12_lays_67 : decode cX12_lays 67 = .ok (.aload_n 0, 1) := by decide +kernel
theorem dX12_lays_68 : decode cX12_lays 68 = .ok (.getfield 38, 3) := by decide +kernel
theorem dX12_lays_71 : decode cX12_lays 71 = .ok (.bipush 6, 2) := by decide +kernel
theorem dX12_lays_73 : decode cX12_lays 73 = .ok (.invokestatic 316, 3) := by decide +kernel
theorem dX12_lays_76 : decode cX12_lays 76 = .ok (.aload_n 0, 1) := by decide +kernel
theorem dX12_lays_77 : decode cX12_lays 77 = .ok (.getfield 47, 3) := by decide +kernel
theorem dX12_lays_80 : decode cX12_lays 80 = .ok (.sipush 1000, 3) := by decide +kernel
theorem dX12_lays_83 : decode cX12_lays 83 = .ok (.invokestatic 316, 3) := by decide +kernel
theorem dX12_lays_86 : decode cX12_lays 86 = .ok (.aload_n 0, 1) := by decide +kernel
theorem dX12_lays_87 : decode cX12_lays 87 = .ok (.getfield 41, 3) := by decide +kernel
theorem dX12_lays_90 : decode cX12_lays 90 = .ok (.iconst 0, 1) := by decide +kernel
theorem dX12_lays_91 : decode cX12_lays 91 = .ok (.aload_n 0, 1) := by decide +kernel
theorem dX12_lays_92 : decode cX12_lays 92 = .ok (.getfield 41, 3) := by decide +kernel
theorem dX12_lays_95 : decode cX12_lays 95 = .ok (.iconst 1, 1) := by decide +kernel
theorem dX12_lays_96 : decode cX12_lays 96 = .ok (.iaload, 1) := by decide +kernel
theorem dX12_lays_97 : decode cX12_lays 97 = .ok (.sipush 1000, 3) := by decide +kernel
theorem dX12_lays_100 : decode cX12_lays 100 = .ok (.isub, 1) := by decide +kernel
theorem dX12_lays_101 : decode cX12_lays 101 = .ok (.iastore, 1) := by decide +kernel
theorem dX12_lays_102 : decode cX12_lays 102 = .ok (.aload_n 0, 1) := by decide +kernel
theorem dX12_lays_103 : decode cX12_lays 103 = .ok (.getfield 44, 3) := by decide +kernel
theorem dX12_lays_106 : decode cX12_lays 106 = .ok (.iconst 0, 1) := by decide +kernel
theorem dX12_lays_107 : decode cX12_lays 107 = .ok (.aload_n 0, 1) := by decide +kernel
theorem dX12_lays_108 : decode cX12_lays 108 = .ok (.getfield 44, 3) := by decide +kernel
theorem dX12_lays_111 : decode cX12_lays 111 = .ok (.iconst 1, 1) := by decide +kernel
theorem dX12_lays_112 : decode cX12_lays 112 = .ok (.iaload, 1) := by decide +kernel
theorem dX12_lays_113 : decode cX12_lays 113 = .ok (.sipush 1000, 3) := by decide +kernel
theorem dX12_lays_116 : decode cX12_lays 116 = .ok (.isub, 1) := by decide +kernel
theorem dX12_lays_117 : decode cX12_lays 117 = .ok (.iastore, 1) := by decide +kernel
theorem dX12_lays_118 : decode cX12_lays 118 = .ok (.return_, 1) := by decide +kernel
theorem dX12_laysLines_0 : decode cX12_laysLines 0 = .ok (.aload_n 0, 1) := by decide +kernel
theorem dX12_laysLines_1 : decode cX12_laysLines 1 = .ok (.getfield 87, 3) := by decide +kernel
theorem dX12_laysLines_4 : decode cX12_laysLines 4 = .ok (.iload_n 2, 1) := by decide +kernel
theorem dX12_laysLines_5 : decode cX12_laysLines 5 = .ok (.aload_n 0, 1) := by decide +kernel
theorem dX12_laysLines_6 : decode cX12_laysLines 6 = .ok (.getfield 87, 3) := by decide +kernel
theorem dX12_laysLines_9 : decode cX12_laysLines 9 = .ok (.iload_n 1, 1) := by decide +kernel
theorem dX12_laysLines_10 : decode cX12_laysLines 10 = .ok (.iaload, 1) := by decide +kernel
theorem dX12_laysLines_11 : decode cX12_laysLines 11 = .ok (.iastore, 1) := by decide +kernel
theorem dX12_laysLines_12 : decode cX12_laysLines 12 = .ok (.iconst 0, 1) := by decide +kernel
theorem dX12_laysLines_13 : decode cX12_laysLines 13 = .ok (.istore_n 3, 1) := by decide +kernel
theorem dX12_laysLines_14 : decode cX12_laysLines 14 = .ok (.iload_n 3, 1) := by decide +kernel
theorem dX12_laysLines_15 : decode cX12_laysLines 15 = .ok (.bipush 40, 2) := by decide +kernel
theorem dX12_laysLines_17 : decode cX12_laysLines 17 = .ok (.if_icmp .ge 75, 3) := by decide +kernel
theorem dX12_laysLines_20 : decode cX12_laysLines 20 = .ok (.aload_n 0, 1) := by decide +kernel
theorem dX12_laysLines_21 : decode cX12_laysLines 21 = .ok (.getfield 90, 3) := by decide +kernel
theorem dX12_laysLines_24 : decode cX12_laysLines 24 = .ok (.bipush 40, 2) := by decide +kernel
theorem dX12_laysLines_26 : decode cX12_laysLines 26 = .ok (.iload_n 2, 1) := by decide +kernel
theorem dX12_laysLines_27 : decode cX12_laysLines 27 = .ok (.imul, 1) := by decide +kernel
theorem dX12_laysLines_28 : decode cX12_laysLines 28 = .ok (.iload_n 3, 1) := by decide +kernel
theorem dX12_laysLines_29 : decode cX12_laysLines 29 = .ok (.iadd, 1) := by decide +kernel
theorem dX12_laysLines_30 : decode cX12_laysLines 30 = .ok (.aload_n 0, 1) := by decide +kernel
theorem dX12_laysLines_31 : decode cX12_laysLines 31 = .ok (.getfield 90, 3) := by decide +kernel
theorem dX12_laysLines_34 : decode cX12_laysLines 34 = .ok (.bipush 40, 2) := by decide +kernel
theorem dX12_laysLines_36 : decode cX12_laysLines 36 = .ok (.iload_n 1, 1) := by decide +kernel
theorem dX12_laysLines_37 : decode cX12_laysLines 37 = .ok (.imul, 1) := by decide +kernel
theorem dX12_laysLines_38 : decode cX12_laysLines 38 = .ok (.iload_n 3, 1) := by decide +kernel
theorem dX12_laysLines_39 : decode cX12_laysLines 39 = .ok (.iadd, 1) := by decide +kernel
theorem dX12_laysLines_40 : decode cX12_laysLines 40 = .ok (.iaload, 1) := by decide +kernel
theorem dX12_laysLines_41 : decode cX12_laysLines 41 = .ok (.iastore, 1) := by decide +kernel
theorem dX12_laysLines_42 : decode cX12_laysLines 42 = .ok (.aload_n 0, 1) := by decide +kernel
theorem dX12_laysLines_43 : decode cX12_laysLines 43 = .ok (.getfield 93, 3) := by decide +kernel
theorem dX12_laysLines_46 : decode cX12_laysLines 46 = .ok (.bipush 40, 2) := by decide +kernel
theorem dX12_laysLines_48 : decode cX12_laysLines 48 = .ok (.iload_n 2, 1) := by decide +kernel
theorem dX12_laysLines_49 : decode cX12_laysLines 49 = .ok (.imul, 1) := by decide +kernel
theorem dX12_laysLines_50 : decode cX12_laysLines 50 = .ok (.iload_n 3, 1) := by decide +kernel
theorem dX12_laysLines_51 : decode cX12_laysLines 51 = .ok (.iadd, 1) := by decide +kernel
theorem dX12_laysLines_52 : decode cX12_laysLines 52 = .ok (.aload_n 0, 1) := by decide +kernel
theorem dX12_laysLines_53 : decode cX12_laysLines 53 = .ok (.getfield 93, 3) := by decide +kernel
theorem dX12_laysLines_56 : decode cX12_laysLines 56 = .ok (.bipush 40, 2) := by decide +kernel
theorem dX12_laysLines_58 : decode cX12_laysLines 58 = .ok (.iload_n 1, 1) := by decide +kernel
theorem dX12_laysLines_59 : decode cX12_laysLines 59 = .ok (.imul, 1) := by decide +kernel
theorem dX12_laysLines_60 : decode cX12_laysLines 60 = .ok (.iload_n 3, 1) := by decide +kernel
theorem dX12_laysLines_61 : decode cX12_laysLines 61 = .ok (.iadd, 1) := by decide +kernel
theorem dX12_laysLines_62 : decode cX12_laysLines 62 = .ok (.iaload, 1) := by decide +kernel
theorem dX12_laysLines_63 : decode cX12_laysLines 63 = .ok (.iastore, 1) := by decide +kernel
theorem dX12_laysLines_64 : decode cX12_laysLines 64 = .ok (.aload_n 0, 1) := by decide +kernel
theorem dX12_laysLines_65 : decode cX12_laysLines 65 = .ok (.getfield 96, 3) := by decide +kernel
theorem dX12_laysLines_68 : decode cX12_laysLines 68 = .ok (.bipush 40, 2) := by decide +kernel
theorem dX12_laysLines_70 : decode cX12_laysLines 70 = .ok (.iload_n 2, 1) := by decide +kernel
theorem dX12_laysLines_71 : decode cX12_laysLines 71 = .ok (.imul, 1) := by decide +kernel
theorem dX12_laysLines_72 : decode cX12_laysLines 72 = .ok (.iload_n 3, 1) := by decide +kernel
theorem dX12_laysLines_73 : decode cX12_laysLines 73 = .ok (.iadd, 1) := by decide +kernel
theorem dX12_laysLines_74 : decode cX12_laysLines 74 = .ok (.aload_n 0, 1) := by decide +kernel
theorem dX12_laysLines_75 : decode cX12_laysLines 75 = .ok (.getfield 96, 3) := by decide +kernel
theorem dX12_laysLines_78 : decode cX12_laysLines 78 = .ok (.bipush 40, 2) := by decide +kernel
theorem dX12_laysLines_80 : decode cX12_laysLines 80 = .ok (.iload_n 1, 1) := by decide +kernel
theorem dX12_laysLines_81 : decode cX12_laysLines 81 = .ok (.imul, 1) := by decide +kernel
theorem dX12_laysLines_82 : decode cX12_laysLines 82 = .ok (.iload_n 3, 1) := by decide +kernel
theorem dX12_laysLines_83 : decode cX12_laysLines 83 = .ok (.iadd, 1) := by decide +kernel
theorem dX12_laysLines_84 : decode cX12_laysLines 84 = .ok (.iaload, 1) := by decide +kernel
theorem dX12_laysLines_85 : decode cX12_laysLines 85 = .ok (.iastore, 1) := by decide +kernel
theorem dX12_laysLines_86 : decode cX12_laysLines 86 = .ok (.iinc 3 1, 3) := by decide +kernel
theorem dX12_laysLines_89 : decode cX12_laysLines 89 = .ok (.goto (-75), 3) := by decide +kernel
theorem dX12_laysLines_92 : decode cX12_laysLines 92 = .ok (.return_, 1) := by decide +kernel
theorem dX12_laysSeen_0 : decode cX12_laysSeen 0 = .ok (.aload_n 0, 1) := by decide +kernel
theorem dX12_laysSeen_1 : decode cX12_laysSeen 1 = .ok (.getfield 99, 3) := by decide +kernel
theorem dX12_laysSeen_4 : decode cX12_laysSeen 4 = .ok (.iload_n 2, 1) := by decide +kernel
theorem dX12_laysSeen_5 : decode cX12_laysSeen 5 = .ok (.aload_n 0, 1) := by decide +kernel
theorem dX12_laysSeen_6 : decode cX12_laysSeen 6 = .ok (.getfield 99, 3) := by decide +kernel
theorem dX12_laysSeen_9 : decode cX12_laysSeen 9 = .ok (.iload_n 1, 1) := by decide +kernel
theorem dX12_laysSeen_10 : decode cX12_laysSeen 10 = .ok (.iaload, 1) := by decide +kernel
theorem dX12_laysSeen_11 : decode cX12_laysSeen 11 = .ok (.iastore, 1) := by decide +kernel
theorem dX12_laysSeen_12 : decode cX12_laysSeen 12 = .ok (.iconst 0, 1) := by decide +kernel
theorem dX12_laysSeen_13 : decode cX12_laysSeen 13 = .ok (.istore_n 3, 1) := by decide +kernel
theorem dX12_laysSeen_14 : decode cX12_laysSeen 14 = .ok (.iload_n 3, 1) := by decide +kernel
theorem dX12_laysSeen_15 : decode cX12_laysSeen 15 = .ok (.bipush 8, 2) := by decide +kernel
theorem dX12_laysSeen_17 : decode cX12_laysSeen 17 = .ok (.if_icmp .ge 53, 3) := by decide +kernel
theorem dX12_laysSeen_20 : decode cX12_laysSeen 20 = .ok (.aload_n 0, 1) := by decide +kernel
theorem dX12_laysSeen_21 : decode cX12_laysSeen 21 = .ok (.getfield 102, 3) := by decide +kernel
theorem dX12_laysSeen_24 : decode cX12_laysSeen 24 = .ok (.bipush 8, 2) := by decide +kernel
theorem dX12_laysSeen_26 : decode cX12_laysSeen 26 = .ok (.iload_n 2, 1) := by decide +kernel
theorem dX12_laysSeen_27 : decode cX12_laysSeen 27 = .ok (.imul, 1) := by decide +kernel
theorem dX12_laysSeen_28 : decode cX12_laysSeen 28 = .ok (.iload_n 3, 1) := by decide +kernel
theorem dX12_laysSeen_29 : decode cX12_laysSeen 29 = .ok (.iadd, 1) := by decide +kernel
theorem dX12_laysSeen_30 : decode cX12_laysSeen 30 = .ok (.aload_n 0, 1) := by decide +kernel
theorem dX12_laysSeen_31 : decode cX12_laysSeen 31 = .ok (.getfield 102, 3) := by decide +kernel
theorem dX12_laysSeen_34 : decode cX12_laysSeen 34 = .ok (.bipush 8, 2) := by decide +kernel
theorem dX12_laysSeen_36 : decode cX12_laysSeen 36 = .ok (.iload_n 1, 1) := by decide +kernel
theorem dX12_laysSeen_37 : decode cX12_laysSeen 37 = .ok (.imul, 1) := by decide +kernel
theorem dX12_laysSeen_38 : decode cX12_laysSeen 38 = .ok (.iload_n 3, 1) := by decide +kernel
theorem dX12_laysSeen_39 : decode cX12_laysSeen 39 = .ok (.iadd, 1) := by decide +kernel
theorem dX12_laysSeen_40 : decode cX12_laysSeen 40 = .ok (.iaload, 1) := by decide +kernel
theorem dX12_laysSeen_41 : decode cX12_laysSeen 41 = .ok (.iastore, 1) := by decide +kernel
theorem dX12_laysSeen_42 : decode cX12_laysSeen 42 = .ok (.aload_n 0, 1) := by decide +kernel
theorem dX12_laysSeen_43 : decode cX12_laysSeen 43 = .ok (.getfield 105, 3) := by decide +kernel
theorem dX12_laysSeen_46 : decode cX12_laysSeen 46 = .ok (.bipush 8, 2) := by decide +kernel
theorem dX12_laysSeen_48 : decode cX12_laysSeen 48 = .ok (.iload_n 2, 1) := by decide +kernel
theorem dX12_laysSeen_49 : decode cX12_laysSeen 49 = .ok (.imul, 1) := by decide +kernel
theorem dX12_laysSeen_50 : decode cX12_laysSeen 50 = .ok (.iload_n 3, 1) := by decide +kernel
theorem dX12_laysSeen_51 : decode cX12_laysSeen 51 = .ok (.iadd, 1) := by decide +kernel
theorem dX12_laysSeen_52 : decode cX12_laysSeen 52 = .ok (.aload_n 0, 1) := by decide +kernel
theorem dX12_laysSeen_53 : decode cX12_laysSeen 53 = .ok (.getfield 105, 3) := by decide +kernel
theorem dX12_laysSeen_56 : decode cX12_laysSeen 56 = .ok (.bipush 8, 2) := by decide +kernel
theorem dX12_laysSeen_58 : decode cX12_laysSeen 58 = .ok (.iload_n 1, 1) := by decide +kernel
theorem dX12_laysSeen_59 : decode cX12_laysSeen 59 = .ok (.imul, 1) := by decide +kernel
theorem dX12_laysSeen_60 : decode cX12_laysSeen 60 = .ok (.iload_n 3, 1) := by decide +kernel
theorem dX12_laysSeen_61 : decode cX12_laysSeen 61 = .ok (.iadd, 1) := by decide +kernel
theorem dX12_laysSeen_62 : decode cX12_laysSeen 62 = .ok (.baload, 1) := by decide +kernel
theorem dX12_laysSeen_63 : decode cX12_laysSeen 63 = .ok (.bastore, 1) := by decide +kernel
theorem dX12_laysSeen_64 : decode cX12_laysSeen 64 = .ok (.iinc 3 1, 3) := by decide +kernel
theorem dX12_laysSeen_67 : decode cX12_laysSeen 67 = .ok (.goto (-53), 3) := by decide +kernel
theorem dX12_laysSeen_70 : decode cX12_laysSeen 70 = .ok (.return_, 1) := by decide +kernel
theorem dX12_land_0 : decode cX12_land 0 = .ok (.aload_n 0, 1) := by decide +kernel
theorem dX12_land_1 : decode cX12_land 1 = .ok (.iconst 0, 1) := by decide +kernel
theorem dX12_land_2 : decode cX12_land 2 = .ok (.putfield 129, 3) := by decide +kernel
theorem dX12_land_5 : decode cX12_land 5 = .ok (.aload_n 0, 1) := by decide +kernel
theorem dX12_land_6 : decode cX12_land 6 = .ok (.invokevirtual 327, 3) := by decide +kernel
theorem dX12_land_9 : decode cX12_land 9 = .ok (.ifCond .ne 8, 3) := by decide +kernel
theorem dX12_land_17 : decode cX12_land 17 = .ok (.aload_n 0, 1) := by decide +kernel
theorem dX12_land_18 : decode cX12_land 18 = .ok (.invokevirtual 330, 3) := by decide +kernel
theorem dX12_land_21 : decode cX12_land 21 = .ok (.aload_n 0, 1) := by decide +kernel
theorem dX12_land_22 : decode cX12_land 22 = .ok (.invokevirtual 333, 3) := by decide +kernel
theorem dX12_land_25 : decode cX12_land 25 = .ok (.aload_n 0, 1) := by decide +kernel
theorem dX12_land_26 : decode cX12_land 26 = .ok (.getfield 87, 3) := by decide +kernel
theorem dX12_land_29 : decode cX12_land 29 = .ok (.iconst 0, 1) := by decide +kernel
theorem dX12_land_30 : decode cX12_land 30 = .ok (.iconst 0, 1) := by decide +kernel
theorem dX12_land_31 : decode cX12_land 31 = .ok (.iastore, 1) := by decide +kernel
theorem dX12_land_32 : decode cX12_land 32 = .ok (.aload_n 0, 1) := by decide +kernel
theorem dX12_land_33 : decode cX12_land 33 = .ok (.getfield 99, 3) := by decide +kernel
theorem dX12_land_36 : decode cX12_land 36 = .ok (.iconst 0, 1) := by decide +kernel
theorem dX12_land_37 : decode cX12_land 37 = .ok (.iconst 0, 1) := by decide +kernel
theorem dX12_land_38 : decode cX12_land 38 = .ok (.iastore, 1) := by decide +kernel
theorem dX12_land_39 : decode cX12_land 39 = .ok (.aload_n 0, 1) := by decide +kernel
theorem dX12_land_40 : decode cX12_land 40 = .ok (.iconst 0, 1) := by decide +kernel
theorem dX12_land_41 : decode cX12_land 41 = .ok (.putfield 336, 3) := by decide +kernel
theorem dX12_land_44 : decode cX12_land 44 = .ok (.iconst 0, 1) := by decide +kernel
theorem dX12_land_45 : decode cX12_land 45 = .ok (.istore_n 1, 1) := by decide +kernel
theorem dX12_land_46 : decode cX12_land 46 = .ok (.iload_n 1, 1) := by decide +kernel
theorem dX12_land_47 : decode cX12_land 47 = .ok (.iconst 4, 1) := by decide +kernel
theorem dX12_land_48 : decode cX12_land 48 = .ok (.if_icmp .ge 16, 3) := by decide +kernel
theorem dX12_land_51 : decode cX12_land 51 = .ok (.aload_n 0, 1) := by decide +kernel
theorem dX12_land_52 : decode cX12_land 52 = .ok (.getfield 123, 3) := by decide +kernel
theorem dX12_land_55 : decode cX12_land 55 = .ok (.iload_n 1, 1) := by decide +kernel
theorem dX12_land_56 : decode cX12_land 56 = .ok (.iconst 0, 1) := by decide +kernel
theorem dX12_land_57 : decode cX12_land 57 = .ok (.bastore, 1) := by decide +kernel
theorem dX12_land_58 : decode cX12_land 58 = .ok (.iinc 1 1, 3) := by decide +kernel
theorem dX12_land_61 : decode cX12_land 61 = .ok (.goto (-15), 3) := by decide +kernel
theorem dX12_land_64 : decode cX12_land 64 = .ok (.iconst 0, 1) := by decide +kernel
theorem dX12_land_65 : decode cX12_land 65 = .ok (.ireturn, 1) := by decide +kernel
theorem dX12_journey_0 : decode cX12_journey 0 = .ok (.aload_n 0, 1) := by decide +kernel
theorem dX12_journey_1 : decode cX12_journey 1 = .ok (.iconst 0, 1) := by decide +kernel
theorem dX12_journey_2 : decode cX12_journey 2 = .ok (.putfield 129, 3) := by decide +kernel
theorem dX12_journey_5 : decode cX12_journey 5 = .ok (.aload_n 0, 1) := by decide +kernel
theorem dX12_journey_6 : decode cX12_journey 6 = .ok (.getfield 87, 3) := by decide +kernel
theorem dX12_journey_9 : decode cX12_journey 9 = .ok (.iconst 5, 1) := by decide +kernel
theorem dX12_journey_10 : decode cX12_journey 10 = .ok (.iconst 0, 1) := by decide +kernel
theorem dX12_journey_11 : decode cX12_journey 11 = .ok (.iastore, 1) := by decide +kernel
theorem dX12_journey_12 : decode cX12_journey 12 = .ok (.aload_n 0, 1) := by decide +kernel
theorem dX12_journey_13 : decode cX12_journey 13 = .ok (.iconst 0, 1) := by decide +kernel
theorem dX12_journey_14 : decode cX12_journey 14 = .ok (.putfield 256, 3) := by decide +kernel
theorem dX12_journey_17 : decode cX12_journey 17 = .ok (.aload_n 0, 1) := by decide +kernel
theorem dX12_journey_18 : decode cX12_journey 18 = .ok (.invokevirtual 298, 3) := by decide +kernel
theorem dX12_journey_21 : decode cX12_journey 21 = .ok (.aload_n 0, 1) := by decide +kernel
theorem dX12_journey_22 : decode cX12_journey 22 = .ok (.getfield 154, 3) := by decide +kernel
theorem dX12_journey_25 : decode cX12_journey 25 = .ok (.ifCond .eq 15, 3) := by decide +kernel
theorem dX12_journey_40 : decode cX12_journey 40 = .ok (.aload_n 0, 1) := by decide +kernel
theorem dX12_journey_41 : decode cX12_journey 41 = .ok (.iconst 5, 1) := by decide +kernel
theorem dX12_journey_42 : decode cX12_journey 42 = .ok (.iconst 0, 1) := by decide +kernel
theorem dX12_journey_43 : decode cX12_journey 43 = .ok (.invokevirtual 342, 3) := by decide +kernel
theorem dX12_journey_46 : decode cX12_journey 46 = .ok (.iconst 0, 1) := by decide +kernel
theorem dX12_journey_47 : decode cX12_journey 47 = .ok (.ireturn, 1) := by decide +kernel
theorem dX12_ask_0 : decode cX12_ask 0 = .ok (.aload_n 0, 1) := by decide +kernel
theorem dX12_ask_1 : decode cX12_ask 1 = .ok (.iconst 0, 1) := by decide +kernel
theorem dX12_ask_2 : decode cX12_ask 2 = .ok (.putfield 129, 3) := by decide +kernel
theorem dX12_ask_5 : decode cX12_ask 5 = .ok (.aload_n 0, 1) := by decide +kernel
theorem dX12_ask_6 : decode cX12_ask 6 = .ok (.iconst 0, 1) := by decide +kernel
theorem dX12_ask_7 : decode cX12_ask 7 = .ok (.invokevirtual 444, 3) := by decide +kernel
theorem dX12_ask_10 : decode cX12_ask 10 = .ok (.istore_n 1, 1) := by decide +kernel
theorem dX12_ask_11 : decode cX12_ask 11 = .ok (.iload_n 1, 1) := by decide +kernel
theorem dX12_ask_12 : decode cX12_ask 12 = .ok (.istore_n 2, 1) := by decide +kernel
theorem dX12_ask_13 : decode cX12_ask 13 = .ok (.iconst (-1), 1) := by decide +kernel
theorem dX12_ask_14 : decode cX12_ask 14 = .ok (.istore_n 3, 1) := by decide +kernel
theorem dX12_ask_15 : decode cX12_ask 15 = .ok (.iconst 0, 1) := by decide +kernel
theorem dX12_ask_16 : decode cX12_ask 16 = .ok (.istore 4, 2) := by decide +kernel
theorem dX12_ask_18 : decode cX12_ask 18 = .ok (.iload 4, 2) := by decide +kernel
theorem dX12_ask_20 : decode cX12_ask 20 = .ok (.aload_n 0, 1) := by decide +kernel
theorem dX12_ask_21 : decode cX12_ask 21 = .ok (.getfield 13, 3) := by decide +kernel
theorem dX12_ask_24 : decode cX12_ask 24 = .ok (.iconst 0, 1) := by decide +kernel
theorem dX12_ask_25 : decode cX12_ask 25 = .ok (.iaload, 1) := by decide +kernel
theorem dX12_ask_26 : decode cX12_ask 26 = .ok (.if_icmp .ge 90, 3) := by decide +kernel
theorem dX12_ask_116 : decode cX12_ask 116 = .ok (.iload_n 3, 1) := by decide +kernel
theorem dX12_ask_117 : decode cX12_ask 117 = .ok (.ireturn, 1) := by decide +kernel
set_option maxRecDepth 20000 in
theorem ggX12_years_X12_within : GoodIn wsX12_years wsX12_within := goodIn_r _ [10] (by decide +kernel) (by decide +kernel)
set_option maxRecDepth 20000 in
theorem gX12_years_X12_within : GoodIn wsX12_years (va_wsS RX12 252 yX12_within wsX12_within) := goodIn_app (goodIn_of _ (by decide +kernel)) ggX12_years_X12_within
set_option maxRecDepth 20000 in
theorem ggX12_years_X12_copies : GoodIn wsX12_years wsX12_copies := goodIn_r _ [13] (by decide +kernel) (by decide +kernel)
set_option maxRecDepth 20000 in
theorem gX12_years_X12_copies : GoodIn wsX12_years (va_wsS RX12 379 yX12_copies wsX12_copies) := goodIn_app (goodIn_of _ (by decide +kernel)) ggX12_years_X12_copies
theorem dX12_years_0 : decode cX12_years 0 = .ok (.aload_n 0, 1) := by decide +kernel
theorem dX12_years_1 : decode cX12_years 1 = .ok (.iconst 0, 1) := by decide +kernel
theorem dX12_years_2 : decode cX12_years 2 = .ok (.putfield 129, 3) := by decide +kernel
theorem dX12_years_5 : decode cX12_years 5 = .ok (.iload_n 1, 1) := by decide +kernel
theorem dX12_years_6 : decode cX12_years 6 = .ok (.iconst 0, 1) := by decide +kernel
theorem dX12_years_7 : decode cX12_years 7 = .ok (.sipush 9999, 3) := by decide +kernel
theorem dX12_years_10 : decode cX12_years 10 = .ok (.invokestatic 252, 3) := by decide +kernel
theorem dX12_years_13 : decode cX12_years 13 = .ok (.ifCond .eq 22, 3) := by decide +kernel
theorem dX12_years_16 : decode cX12_years 16 = .ok (.iload_n 2, 1) := by decide +kernel
theorem dX12_years_17 : decode cX12_years 17 = .ok (.iconst 1, 1) := by decide +kernel
theorem dX12_years_18 : decode cX12_years 18 = .ok (.bipush 99, 2) := by decide +kernel
theorem dX12_years_20 : decode cX12_years 20 = .ok (.invokestatic 252, 3) := by decide +kernel
theorem dX12_years_23 : decode cX12_years 23 = .ok (.ifCond .eq 12, 3) := by decide +kernel
theorem dX12_years_26 : decode cX12_years 26 = .ok (.iload_n 3, 1) := by decide +kernel
theorem dX12_years_27 : decode cX12_years 27 = .ok (.iconst 0, 1) := by decide +kernel
theorem dX12_years_28 : decode cX12_years 28 = .ok (.iconst 2, 1) := by decide +kernel
theorem dX12_years_29 : decode cX12_years 29 = .ok (.invokestatic 252, 3) := by decide +kernel
theorem dX12_years_32 : decode cX12_years 32 = .ok (.ifCond .ne 5, 3) := by decide +kernel
theorem dX12_years_35 : decode cX12_years 35 = .ok (.iconst (-1), 1) := by decide +kernel
theorem dX12_years_36 : decode cX12_years 36 = .ok (.ireturn, 1) := by decide +kernel
theorem dX12_years_37 : decode cX12_years 37 = .ok (.aload_n 0, 1) := by decide +kernel
theorem dX12_years_38 : decode cX12_years 38 = .ok (.iload_n 1, 1) := by decide +kernel
theorem dX12_years_39 : decode cX12_years 39 = .ok (.i2l, 1) := by decide +kernel
theorem dX12_years_40 : decode cX12_years 40 = .ok (.putfield 454, 3) := by decide +kernel
theorem dX12_years_43 : decode cX12_years 43 = .ok (.aload_n 0, 1) := by decide +kernel
theorem dX12_years_44 : decode cX12_years 44 = .ok (.iconst 0, 1) := by decide +kernel
theorem dX12_years_45 : decode cX12_years 45 = .ok (.putfield 468, 3) := by decide +kernel
theorem dX12_years_48 : decode cX12_years 48 = .ok (.aload_n 0, 1) := by decide +kernel
theorem dX12_years_49 : decode cX12_years 49 = .ok (.iconst 0, 1) := by decide +kernel
theorem dX12_years_50 : decode cX12_years 50 = .ok (.putfield 471, 3) := by decide +kernel
theorem dX12_years_53 : decode cX12_years 53 = .ok (.aload_n 0, 1) := by decide +kernel
theorem dX12_years_54 : decode cX12_years 54 = .ok (.getfield 108, 3) := by decide +kernel
theorem dX12_years_57 : decode cX12_years 57 = .ok (.iconst 0, 1) := by decide +kernel
theorem dX12_years_58 : decode cX12_years 58 = .ok (.aload_n 0, 1) := by decide +kernel
theorem dX12_years_59 : decode cX12_years 59 = .ok (.getfield 111, 3) := by decide +kernel
theorem dX12_years_62 : decode cX12_years 62 = .ok (.iconst 0, 1) := by decide +kernel
theorem dX12_years_63 : decode cX12_years 63 = .ok (.invokestatic 379, 3) := by decide +kernel
theorem dX12_years_66 : decode cX12_years 66 = .ok (.iconst 0, 1) := by decide +kernel
theorem dX12_years_67 : decode cX12_years 67 = .ok (.istore 4, 2) := by decide +kernel
theorem dX12_years_69 : decode cX12_years 69 = .ok (.iload 4, 2) := by decide +kernel
theorem dX12_years_71 : decode cX12_years 71 = .ok (.iload_n 2, 1) := by decide +kernel
theorem dX12_years_72 : decode cX12_years 72 = .ok (.if_icmp .ge 13, 3) := by decide +kernel
theorem dX12_years_75 : decode cX12_years 75 = .ok (.aload_n 0, 1) := by decide +kernel
theorem dX12_years_76 : decode cX12_years 76 = .ok (.invokevirtual 474, 3) := by decide +kernel
theorem dX12_years_79 : decode cX12_years 79 = .ok (.iinc 4 1, 3) := by decide +kernel
theorem dX12_years_82 : decode cX12_years 82 = .ok (.goto (-13), 3) := by decide +kernel
theorem dX12_years_85 : decode cX12_years 85 = .ok (.aload_n 0, 1) := by decide +kernel
theorem dX12_years_86 : decode cX12_years 86 = .ok (.invokevirtual 477, 3) := by decide +kernel
theorem dX12_years_89 : decode cX12_years 89 = .ok (.istore 4, 2) := by decide +kernel
theorem dX12_years_91 : decode cX12_years 91 = .ok (.aload_n 0, 1) := by decide +kernel
theorem dX12_years_92 : decode cX12_years 92 = .ok (.getfield 111, 3) := by decide +kernel
theorem dX12_years_95 : decode cX12_years 95 = .ok (.iconst 0, 1) := by decide +kernel
theorem dX12_years_96 : decode cX12_years 96 = .ok (.aload_n 0, 1) := by decide +kernel
theorem dX12_years_97 : decode cX12_years 97 = .ok (.getfield 108, 3) := by decide +kernel
theorem dX12_years_100 : decode cX12_years 100 = .ok (.iconst 0, 1) := by decide +kernel
theorem dX12_years_101 : decode cX12_years 101 = .ok (.invokestatic 379, 3) := by decide +kernel
theorem dX12_years_104 : decode cX12_years 104 = .ok (.iload_n 3, 1) := by decide +kernel
theorem dX12_years_105 : decode cX12_years 105 = .ok (.ifCond .ne 10, 3) := by decide +kernel
theorem dX12_years_108 : decode cX12_years 108 = .ok (.aload_n 0, 1) := by decide +kernel
theorem dX12_years_109 : decode cX12_years 109 = .ok (.getfield 468, 3) := by decide +kernel
theorem dX12_years_112 : decode cX12_years 112 = .ok (.goto 17, 3) := by decide +kernel
theorem dX12_years_115 : decode cX12_years 115 = .ok (.iload_n 3, 1) := by decide +kernel
theorem dX12_years_116 : decode cX12_years 116 = .ok (.iconst 1, 1) := by decide +kernel
theorem dX12_years_117 : decode cX12_years 117 = .ok (.if_icmp .ne 10, 3) := by decide +kernel
theorem dX12_years_120 : decode cX12_years 120 = .ok (.aload_n 0, 1) := by decide +kernel
theorem dX12_years_121 : decode cX12_years 121 = .ok (.getfield 471, 3) := by decide +kernel
theorem dX12_years_124 : decode cX12_years 124 = .ok (.goto 5, 3) := by decide +kernel
theorem dX12_years_127 : decode cX12_years 127 = .ok (.iload 4, 2) := by decide +kernel
theorem dX12_years_129 : decode cX12_years 129 = .ok (.ireturn, 1) := by decide +kernel
set_option maxRecDepth 20000 in
theorem ggX12_mark_X12_within : GoodIn wsX12_mark wsX12_within := goodIn_r _ [9] (by decide +kernel) (by decide +kernel)
set_option maxRecDepth 20000 in
theorem gX12_mark_X12_within : GoodIn wsX12_mark (va_wsS RX12 252 yX12_within wsX12_within) := goodIn_app (goodIn_of _ (by decide +kernel)) ggX12_mark_X12_within
set_option maxRecDepth 20000 in
theorem ggX12_mark_X12_copies : GoodIn wsX12_mark wsX12_copies := goodIn_r _ [27] (by decide +kernel) (by decide +kernel)
set_option maxRecDepth 20000 in
theorem gX12_mark_X12_copies : GoodIn wsX12_mark (va_wsS RX12 379 yX12_copies wsX12_copies) := goodIn_app (goodIn_of _ (by decide +kernel)) ggX12_mark_X12_copies
theorem dX12_mark_0 : decode cX12_mark 0 = .ok (.aload_n 0, 1) := by decide +kernel
theorem dX12_mark_1 : decode cX12_mark 1 = .ok (.iconst 0, 1) := by decide +kernel
theorem dX12_mark_2 : decode cX12_mark 2 = .ok (.putfield 129, 3) := by decide +kernel
theorem dX12_mark_5 : decode cX12_mark 5 = .ok (.iload_n 1, 1) := by decide +kernel
theorem dX12_mark_6 : decode cX12_mark 6 = .ok (.iconst 0, 1) := by decide +kernel
theorem dX12_mark_7 : decode cX12_mark 7 = .ok (.iconst 3, 1) := by decide +kernel
theorem dX12_mark_8 : decode cX12_mark 8 = .ok (.invokestatic 252, 3) := by decide +kernel
theorem dX12_mark_11 : decode cX12_mark 11 = .ok (.ifCond .eq 16, 3) := by decide +kernel
theorem dX12_mark_14 : decode cX12_mark 14 = .ok (.iload_n 2, 1) := by decide +kernel
theorem dX12_mark_15 : decode cX12_mark 15 = .ok (.ifCond .eq 14, 3) := by decide +kernel
theorem dX12_mark_18 : decode cX12_mark 18 = .ok (.aload_n 0, 1) := by decide +kernel
theorem dX12_mark_19 : decode cX12_mark 19 = .ok (.getfield 123, 3) := by decide +kernel
theorem dX12_mark_22 : decode cX12_mark 22 = .ok (.iload_n 1, 1) := by decide +kernel
theorem dX12_mark_23 : decode cX12_mark 23 = .ok (.baload, 1) := by decide +kernel
theorem dX12_mark_24 : decode cX12_mark 24 = .ok (.ifCond .ne 5, 3) := by decide +kernel
theorem dX12_mark_27 : decode cX12_mark 27 = .ok (.iconst 0, 1) := by decide +kernel
theorem dX12_mark_28 : decode cX12_mark 28 = .ok (.ireturn, 1) := by decide +kernel
theorem dX12_mark_29 : decode cX12_mark 29 = .ok (.aload_n 0, 1) := by decide +kernel
theorem dX12_mark_30 : decode cX12_mark 30 = .ok (.getfield 123, 3) := by decide +kernel
theorem dX12_mark_33 : decode cX12_mark 33 = .ok (.iload_n 1, 1) := by decide +kernel
theorem dX12_mark_34 : decode cX12_mark 34 = .ok (.iconst 1, 1) := by decide +kernel
theorem dX12_mark_35 : decode cX12_mark 35 = .ok (.bastore, 1) := by decide +kernel
theorem dX12_mark_36 : decode cX12_mark 36 = .ok (.iload_n 2, 1) := by decide +kernel
theorem dX12_mark_37 : decode cX12_mark 37 = .ok (.ifCond .eq 9, 3) := by decide +kernel
theorem dX12_mark_46 : decode cX12_mark 46 = .ok (.iconst 0, 1) := by decide +kernel
theorem dX12_mark_47 : decode cX12_mark 47 = .ok (.istore_n 3, 1) := by decide +kernel
theorem dX12_mark_48 : decode cX12_mark 48 = .ok (.iload_n 2, 1) := by decide +kernel
theorem dX12_mark_49 : decode cX12_mark 49 = .ok (.ifCond .eq 7, 3) := by decide +kernel
theorem dX12_mark_56 : decode cX12_mark 56 = .ok (.iconst 1, 1) := by decide +kernel
theorem dX12_mark_57 : decode cX12_mark 57 = .ok (.iload_n 1, 1) := by decide +kernel
theorem dX12_mark_58 : decode cX12_mark 58 = .ok (.iadd, 1) := by decide +kernel
theorem dX12_mark_59 : decode cX12_mark 59 = .ok (.istore 4, 2) := by decide +kernel
theorem dX12_mark_61 : decode cX12_mark 61 = .ok (.aload_n 0, 1) := by decide +kernel
theorem dX12_mark_62 : decode cX12_mark 62 = .ok (.iload_n 3, 1) := by decide +kernel
theorem dX12_mark_63 : decode cX12_mark 63 = .ok (.iload 4, 2) := by decide +kernel
theorem dX12_mark_65 : decode cX12_mark 65 = .ok (.invokevirtual 342, 3) := by decide +kernel
theorem dX12_mark_68 : decode cX12_mark 68 = .ok (.aload_n 0, 1) := by decide +kernel
theorem dX12_mark_69 : decode cX12_mark 69 = .ok (.iload_n 3, 1) := by decide +kernel
theorem dX12_mark_70 : decode cX12_mark 70 = .ok (.iload 4, 2) := by decide +kernel
theorem dX12_mark_72 : decode cX12_mark 72 = .ok (.invokevirtual 480, 3) := by decide +kernel
theorem dX12_mark_75 : decode cX12_mark 75 = .ok (.iload_n 2, 1) := by decide +kernel
theorem dX12_mark_76 : decode cX12_mark 76 = .ok (.ifCond .eq 27, 3) := by decide +kernel
theorem dX12_mark_103 : decode cX12_mark 103 = .ok (.aload_n 0, 1) := by decide +kernel
theorem dX12_mark_104 : decode cX12_mark 104 = .ok (.getfield 108, 3) := by decide +kernel
theorem dX12_mark_107 : decode cX12_mark 107 = .ok (.iconst 0, 1) := by decide +kernel
theorem dX12_mark_108 : decode cX12_mark 108 = .ok (.aload_n 0, 1) := by decide +kernel
theorem dX12_mark_109 : decode cX12_mark 109 = .ok (.getfield 117, 3) := by decide +kernel
theorem dX12_mark_112 : decode cX12_mark 112 = .ok (.bipush 31, 2) := by decide +kernel
theorem dX12_mark_114 : decode cX12_mark 114 = .ok (.iload_n 1, 1) := by decide +kernel
theorem dX12_mark_115 : decode cX12_mark 115 = .ok (.imul, 1) := by decide +kernel
theorem dX12_mark_116 : decode cX12_mark 116 = .ok (.invokestatic 379, 3) := by decide +kernel
theorem dX12_mark_119 : decode cX12_mark 119 = .ok (.iconst 1, 1) := by decide +kernel
theorem dX12_mark_120 : decode cX12_mark 120 = .ok (.ireturn, 1) := by decide +kernel
