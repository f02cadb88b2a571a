theorem dX11_fewestInches_20 : decode cX11_fewestInches 20 = .ok (.getfield 64, 3) := by decide +kernel
theorem dX11_fewestInches_23 : decode cX11_fewestInches 23 = .ok (.getfield 147, 3) := by decide +kernel
theorem dX11_fewestInches_26 : decode cX11_fewestInches 26 = .ok (.iload_n 1, 1) := by decide +kernel
theorem dX11_fewestInches_27 : decode cX11_fewestInches 27 = .ok (.iaload, 1) := by decide +kernel
theorem dX11_fewestInches_28 : decode cX11_fewestInches 28 = .ok (.isub, 1) := by decide +kernel
theorem dX11_fewestInches_29 : decode cX11_fewestInches 29 = .ok (.istore_n 3, 1) := by decide +kernel
theorem dX11_fewestInches_30 : decode cX11_fewestInches 30 = .ok (.iconst 0, 1) := by decide +kernel
theorem dX11_fewestInches_31 : decode cX11_fewestInches 31 = .ok (.istore 4, 2) := by decide +kernel
theorem dX11_fewestInches_33 : decode cX11_fewestInches 33 = .ok (.iload 4, 2) := by decide +kernel
theorem dX11_fewestInches_35 : decode cX11_fewestInches 35 = .ok (.iload_n 3, 1) := by decide +kernel
theorem dX11_fewestInches_36 : decode cX11_fewestInches 36 = .ok (.if_icmp .gt 57, 3) := by decide +kernel
theorem dX11_fewestInches_39 : decode cX11_fewestInches 39 = .ok (.aload_n 0, 1) := by decide +kernel
theorem dX11_fewestInches_40 : decode cX11_fewestInches 40 = .ok (.getfield 68, 3) := by decide +kernel
theorem dX11_fewestInches_43 : decode cX11_fewestInches 43 = .ok (.aload_n 0, 1) := by decide +kernel
theorem dX11_fewestInches_44 : decode cX11_fewestInches 44 = .ok (.getfield 64, 3) := by decide +kernel
theorem dX11_fewestInches_47 : decode cX11_fewestInches 47 = .ok (.invokevirtual 221, 3) := by decide +kernel
theorem dX11_fewestInches_50 : decode cX11_fewestInches 50 = .ok (.aload_n 0, 1) := by decide +kernel
theorem dX11_fewestInches_51 : decode cX11_fewestInches 51 = .ok (.getfield 68, 3) := by decide +kernel
theorem dX11_fewestInches_54 : decode cX11_fewestInches 54 = .ok (.getfield 147, 3) := by decide +kernel
theorem dX11_fewestInches_57 : decode cX11_fewestInches 57 = .ok (.iload_n 1, 1) := by decide +kernel
theorem dX11_fewestInches_58 : decode cX11_fewestInches 58 = .ok (.dup2, 1) := by decide +kernel
theorem dX11_fewestInches_59 : decode cX11_fewestInches 59 = .ok (.iaload, 1) := by decide +kernel
theorem dX11_fewestInches_60 : decode cX11_fewestInches 60 = .ok (.iload 4, 2) := by decide +kernel
theorem dX11_fewestInches_62 : decode cX11_fewestInches 62 = .ok (.iadd, 1) := by decide +kernel
theorem dX11_fewestInches_63 : decode cX11_fewestInches 63 = .ok (.iastore, 1) := by decide +kernel
theorem dX11_fewestInches_64 : decode cX11_fewestInches 64 = .ok (.aload_n 0, 1) := by decide +kernel
theorem dX11_fewestInches_65 : decode cX11_fewestInches 65 = .ok (.getfield 57, 3) := by decide +kernel
theorem dX11_fewestInches_68 : decode cX11_fewestInches 68 = .ok (.aload_n 0, 1) := by decide +kernel
theorem dX11_fewestInches_69 : decode cX11_fewestInches 69 = .ok (.getfield 68, 3) := by decide +kernel
theorem dX11_fewestInches_72 : decode cX11_fewestInches 72 = .ok (.iload_n 1, 1) := by decide +kernel
theorem dX11_fewestInches_73 : decode cX11_fewestInches 73 = .ok (.iconst 0, 1) := by decide +kernel
theorem dX11_fewestInches_74 : decode cX11_fewestInches 74 = .ok (.invokevirtual 253, 3) := by decide +kernel
theorem dX11_fewestInches_77 : decode cX11_fewestInches 77 = .ok (.iload_n 2, 1) := by decide +kernel
theorem dX11_fewestInches_78 : decode cX11_fewestInches 78 = .ok (.invokestatic 277, 3) := by decide +kernel
theorem dX11_fewestInches_81 : decode cX11_fewestInches 81 = .ok (.ifCond .eq 6, 3) := by decide +kernel
theorem dX11_fewestInches_84 : decode cX11_fewestInches 84 = .ok (.iload 4, 2) := by decide +kernel
theorem dX11_fewestInches_86 : decode cX11_fewestInches 86 = .ok (.ireturn, 1) := by decide +kernel
theorem dX11_fewestInches_87 : decode cX11_fewestInches 87 = .ok (.iinc 4 1, 3) := by decide +kernel
theorem dX11_fewestInches_90 : decode cX11_fewestInches 90 = .ok (.goto (-57), 3) := by decide +kernel
theorem dX11_fewestInches_93 : decode cX11_fewestInches 93 = .ok (.iconst (-1), 1) := by decide +kernel
theorem dX11_fewestInches_94 : decode cX11_fewestInches 94 = .ok (.ireturn, 1) := by decide +kernel
theorem dX11_meeting_0 : decode cX11_meeting 0 = .ok (.iload_n 1, 1) := by decide +kernel
theorem dX11_meeting_1 : decode cX11_meeting 1 = .ok (.ifCond .eq 10, 3) := by decide +kernel
theorem dX11_meeting_4 : decode cX11_meeting 4 = .ok (.iload_n 1, 1) := by decide +kernel
theorem dX11_meeting_5 : decode cX11_meeting 5 = .ok (.iconst 1, 1) := by decide +kernel
theorem dX11_meeting_6 : decode cX11_meeting 6 = .ok (.if_icmp .eq 5, 3) := by decide +kernel
theorem dX11_meeting_9 : decode cX11_meeting 9 = .ok (.iconst (-1), 1) := by decide +kernel
theorem dX11_meeting_10 : decode cX11_meeting 10 = .ok (.ireturn, 1) := by decide +kernel
theorem dX11_meeting_11 : decode cX11_meeting 11 = .ok (.aload_n 0, 1) := by decide +kernel
theorem dX11_meeting_12 : decode cX11_meeting 12 = .ok (.getfield 57, 3) := by decide +kernel
theorem dX11_meeting_15 : decode cX11_meeting 15 = .ok (.getfield 287, 3) := by decide +kernel
theorem dX11_meeting_18 : decode cX11_meeting 18 = .ok (.iconst 0, 1) := by decide +kernel
theorem dX11_meeting_19 : decode cX11_meeting 19 = .ok (.invokestatic 290, 3) := by decide +kernel
theorem dX11_meeting_22 : decode cX11_meeting 22 = .ok (.iconst 0, 1) := by decide +kernel
theorem dX11_meeting_23 : decode cX11_meeting 23 = .ok (.istore_n 2, 1) := by decide +kernel
theorem dX11_meeting_24 : decode cX11_meeting 24 = .ok (.iload_n 2, 1) := by decide +kernel
theorem dX11_meeting_25 : decode cX11_meeting 25 = .ok (.aload_n 0, 1) := by decide +kernel
theorem dX11_meeting_26 : decode cX11_meeting 26 = .ok (.getfield 19, 3) := by decide +kernel
theorem dX11_meeting_29 : decode cX11_meeting 29 = .ok (.getfield 172, 3) := by decide +kernel
theorem dX11_meeting_32 : decode cX11_meeting 32 = .ok (.if_icmp .ge 35, 3) := by decide +kernel
theorem dX11_meeting_35 : decode cX11_meeting 35 = .ok (.aload_n 0, 1) := by decide +kernel
theorem dX11_meeting_36 : decode cX11_meeting 36 = .ok (.getfield 57, 3) := by decide +kernel
theorem dX11_meeting_39 : decode cX11_meeting 39 = .ok (.aload_n 0, 1) := by decide +kernel
theorem dX11_meeting_40 : decode cX11_meeting 40 = .ok (.getfield 64, 3) := by decide +kernel
theorem dX11_meeting_43 : decode cX11_meeting 43 = .ok (.iload_n 2, 1) := by decide +kernel
theorem dX11_meeting_44 : decode cX11_meeting 44 = .ok (.aload_n 0, 1) := by decide +kernel
theorem dX11_meeting_45 : decode cX11_meeting 45 = .ok (.getfield 19, 3) := by decide +kernel
theorem dX11_meeting_48 : decode cX11_meeting 48 = .ok (.invokevirtual 296, 3) := by decide +kernel
theorem dX11_meeting_51 : decode cX11_meeting 51 = .ok (.invokevirtual 265, 3) := by decide +kernel
theorem dX11_meeting_54 : decode cX11_meeting 54 = .ok (.aload_n 0, 1) := by decide +kernel
theorem dX11_meeting_55 : decode cX11_meeting 55 = .ok (.getfield 57, 3) := by decide +kernel
theorem dX11_meeting_58 : decode cX11_meeting 58 = .ok (.invokevirtual 299, 3) := by decide +kernel
theorem dX11_meeting_61 : decode cX11_meeting 61 = .ok (.iinc 2 1, 3) := by decide +kernel
theorem dX11_meeting_64 : decode cX11_meeting 64 = .ok (.goto (-40), 3) := by decide +kernel
theorem dX11_meeting_67 : decode cX11_meeting 67 = .ok (.iconst (-1), 1) := by decide +kernel
theorem dX11_meeting_68 : decode cX11_meeting 68 = .ok (.istore_n 2, 1) := by decide +kernel
theorem dX11_meeting_69 : decode cX11_meeting 69 = .ok (.iconst 0, 1) := by decide +kernel
theorem dX11_meeting_70 : decode cX11_meeting 70 = .ok (.istore_n 3, 1) := by decide +kernel
theorem dX11_meeting_71 : decode cX11_meeting 71 = .ok (.iload_n 3, 1) := by decide +kernel
theorem dX11_meeting_72 : decode cX11_meeting 72 = .ok (.aload_n 0, 1) := by decide +kernel
theorem dX11_meeting_73 : decode cX11_meeting 73 = .ok (.getfield 19, 3) := by decide +kernel
theorem dX11_meeting_76 : decode cX11_meeting 76 = .ok (.getfield 169, 3) := by decide +kernel
theorem dX11_meeting_79 : decode cX11_meeting 79 = .ok (.if_icmp .ge 47, 3) := by decide +kernel
theorem dX11_meeting_82 : decode cX11_meeting 82 = .ok (.aload_n 0, 1) := by decide +kernel
theorem dX11_meeting_83 : decode cX11_meeting 83 = .ok (.getfield 57, 3) := by decide +kernel
theorem dX11_meeting_86 : decode cX11_meeting 86 = .ok (.getfield 287, 3) := by decide +kernel
theorem dX11_meeting_89 : decode cX11_meeting 89 = .ok (.iload_n 3, 1) := by decide +kernel
theorem dX11_meeting_90 : decode cX11_meeting 90 = .ok (.iaload, 1) := by decide +kernel
theorem dX11_meeting_91 : decode cX11_meeting 91 = .ok (.istore 4, 2) := by decide +kernel
theorem dX11_meeting_93 : decode cX11_meeting 93 = .ok (.iload 4, 2) := by decide +kernel
theorem dX11_meeting_95 : decode cX11_meeting 95 = .ok (.iconst (-1), 1) := by decide +kernel
theorem dX11_meeting_96 : decode cX11_meeting 96 = .ok (.if_icmp .eq 24, 3) := by decide +kernel
theorem dX11_meeting_99 : decode cX11_meeting 99 = .ok (.iload_n 2, 1) := by decide +kernel
theorem dX11_meeting_100 : decode cX11_meeting 100 = .ok (.iconst (-1), 1) := by decide +kernel
theorem dX11_meeting_101 : decode cX11_meeting 101 = .ok (.if_icmp .eq 17, 3) := by decide +kernel
theorem dX11_meeting_104 : decode cX11_meeting 104 = .ok (.iload 4, 2) := by decide +kernel
theorem dX11_meeting_106 : decode cX11_meeting 106 = .ok (.aload_n 0, 1) := by decide +kernel
theorem dX11_meeting_107 : decode cX11_meeting 107 = .ok (.getfield 57, 3) := by decide +kernel
theorem dX11_meeting_110 : decode cX11_meeting 110 = .ok (.getfield 287, 3) := by decide +kernel
theorem dX11_meeting_113 : decode cX11_meeting 113 = .ok (.iload_n 2, 1) := by decide +kernel
theorem dX11_meeting_114 : decode cX11_meeting 114 = .ok (.iaload, 1) := by decide +kernel
theorem dX11_meeting_115 : decode cX11_meeting 115 = .ok (.if_icmp .ge 5, 3) := by decide +kernel
theorem dX11_meeting_118 : decode cX11_meeting 118 = .ok (.iload_n 3, 1) := by decide +kernel
theorem dX11_meeting_119 : decode cX11_meeting 119 = .ok (.istore_n 2, 1) := by decide +kernel
theorem dX11_meeting_120 : decode cX11_meeting 120 = .ok (.iinc 3 1, 3) := by decide +kernel
theorem dX11_meeting_123 : decode cX11_meeting 123 = .ok (.goto (-52), 3) := by decide +kernel
theorem dX11_meeting_126 : decode cX11_meeting 126 = .ok (.iload_n 2, 1) := by decide +kernel
theorem dX11_meeting_127 : decode cX11_meeting 127 = .ok (.iconst (-1), 1) := by decide +kernel
theorem dX11_meeting_128 : decode cX11_meeting 128 = .ok (.if_icmp .eq 8, 3) := by decide +kernel
theorem dX11_meeting_131 : decode cX11_meeting 131 = .ok (.iload_n 1, 1) := by decide +kernel
theorem dX11_meeting_132 : decode cX11_meeting 132 = .ok (.iconst 1, 1) := by decide +kernel
theorem dX11_meeting_133 : decode cX11_meeting 133 = .ok (.if_icmp .ne 7, 3) := by decide +kernel
theorem dX11_meeting_136 : decode cX11_meeting 136 = .ok (.iload_n 2, 1) := by decide +kernel
theorem dX11_meeting_137 : decode cX11_meeting 137 = .ok (.goto 12, 3) := by decide +kernel
theorem dX11_meeting_140 : decode cX11_meeting 140 = .ok (.aload_n 0, 1) := by decide +kernel
theorem dX11_meeting_141 : decode cX11_meeting 141 = .ok (.getfield 57, 3) := by decide +kernel
theorem dX11_meeting_144 : decode cX11_meeting 144 = .ok (.getfield 287, 3) := by decide +kernel
theorem dX11_meeting_147 : decode cX11_meeting 147 = .ok (.iload_n 2, 1) := by decide +kernel
theorem dX11_meeting_148 : decode cX11_meeting 148 = .ok (.iaload, 1) := by decide +kernel
theorem dX11_meeting_149 : decode cX11_meeting 149 = .ok (.ireturn, 1) := by decide +kernel
theorem dX11_speakers_0 : decode cX11_speakers 0 = .ok (.aload_n 0, 1) := by decide +kernel
theorem dX11_speakers_1 : decode cX11_speakers 1 = .ok (.iload_n 1, 1) := by decide +kernel
theorem dX11_speakers_2 : decode cX11_speakers 2 = .ok (.invokevirtual 133, 3) := by decide +kernel
theorem dX11_speakers_5 : decode cX11_speakers 5 = .ok (.ifCond .eq 24, 3) := by decide +kernel
theorem dX11_speakers_8 : decode cX11_speakers 8 = .ok (.aload_n 0, 1) := by decide +kernel
theorem dX11_speakers_9 : decode cX11_speakers 9 = .ok (.iload_n 2, 1) := by decide +kernel
theorem dX11_speakers_10 : decode cX11_speakers 10 = .ok (.invokevirtual 156, 3) := by decide +kernel
theorem dX11_speakers_13 : decode cX11_speakers 13 = .ok (.ifCond .eq 16, 3) := by decide +kernel
theorem dX11_speakers_16 : decode cX11_speakers 16 = .ok (.aload_n 0, 1) := by decide +kernel
theorem dX11_speakers_17 : decode cX11_speakers 17 = .ok (.getfield 19, 3) := by decide +kernel
theorem dX11_speakers_20 : decode cX11_speakers 20 = .ok (.getfield 137, 3) := by decide +kernel
theorem dX11_speakers_23 : decode cX11_speakers 23 = .ok (.iload_n 1, 1) := by decide +kernel
theorem dX11_speakers_24 : decode cX11_speakers 24 = .ok (.iaload, 1) := by decide +kernel
theorem dX11_speakers_25 : decode cX11_speakers 25 = .ok (.iconst 1, 1) := by decide +kernel
theorem dX11_speakers_26 : decode cX11_speakers 26 = .ok (.if_icmp .eq 5, 3) := by decide +kernel
theorem dX11_speakers_29 : decode cX11_speakers 29 = .ok (.iconst (-1), 1) := by decide +kernel
theorem dX11_speakers_30 : decode cX11_speakers 30 = .ok (.ireturn, 1) := by decide +kernel
theorem dX11_speakers_31 : decode cX11_speakers 31 = .ok (.aload_n 0, 1) := by decide +kernel
theorem dX11_speakers_32 : decode cX11_speakers 32 = .ok (.getfield 48, 3) := by decide +kernel
theorem dX11_speakers_35 : decode cX11_speakers 35 = .ok (.aload_n 0, 1) := by decide +kernel
theorem dX11_speakers_36 : decode cX11_speakers 36 = .ok (.getfield 64, 3) := by decide +kernel
theorem dX11_speakers_39 : decode cX11_speakers 39 = .ok (.aload_n 0, 1) := by decide +kernel
theorem dX11_speakers_40 : decode cX11_speakers 40 = .ok (.getfield 64, 3) := by decide +kernel
theorem dX11_speakers_43 : decode cX11_speakers 43 = .ok (.getfield 141, 3) := by decide +kernel
theorem dX11_speakers_46 : decode cX11_speakers 46 = .ok (.iload_n 1, 1) := by decide +kernel
theorem dX11_speakers_47 : decode cX11_speakers 47 = .ok (.iaload, 1) := by decide +kernel
theorem dX11_speakers_48 : decode cX11_speakers 48 = .ok (.iload_n 2, 1) := by decide +kernel
theorem dX11_speakers_49 : decode cX11_speakers 49 = .ok (.invokevirtual 302, 3) := by decide +kernel
theorem dX11_speakers_52 : decode cX11_speakers 52 = .ok (.ireturn, 1) := by decide +kernel
theorem dX11_strict_0 : decode cX11_strict 0 = .ok (.iconst (-1), 1) := by decide +kernel
theorem dX11_strict_1 : decode cX11_strict 1 = .ok (.istore_n 1, 1) := by decide +kernel
theorem dX11_strict_2 : decode cX11_strict 2 = .ok (.bipush 7, 2) := by decide +kernel
theorem dX11_strict_4 : decode cX11_strict 4 = .ok (.istore_n 2, 1) := by decide +kernel
theorem dX11_strict_5 : decode cX11_strict 5 = .ok (.iconst 0, 1) := by decide +kernel
theorem dX11_strict_6 : decode cX11_strict 6 = .ok (.istore_n 3, 1) := by decide +kernel
theorem dX11_strict_7 : decode cX11_strict 7 = .ok (.iload_n 3, 1) := by decide +kernel
theorem dX11_strict_8 : decode cX11_strict 8 = .ok (.aload_n 0, 1) := by decide +kernel
theorem dX11_strict_9 : decode cX11_strict 9 = .ok (.getfield 19, 3) := by decide +kernel
theorem dX11_strict_12 : decode cX11_strict 12 = .ok (.getfield 169, 3) := by decide +kernel
theorem dX11_strict_15 : decode cX11_strict 15 = .ok (.if_icmp .ge 37, 3) := by decide +kernel
theorem dX11_strict_18 : decode cX11_strict 18 = .ok (.aload_n 0, 1) := by decide +kernel
theorem dX11_strict_19 : decode cX11_strict 19 = .ok (.getfield 48, 3) := by decide +kernel
theorem dX11_strict_22 : decode cX11_strict 22 = .ok (.aload_n 0, 1) := by decide +kernel
theorem dX11_strict_23 : decode cX11_strict 23 = .ok (.getfield 64, 3) := by decide +kernel
theorem dX11_strict_26 : decode cX11_strict 26 = .ok (.iload_n 3, 1) := by decide +kernel
theorem dX11_strict_27 : decode cX11_strict 27 = .ok (.invokevirtual 165, 3) := by decide +kernel
theorem dX11_strict_30 : decode cX11_strict 30 = .ok (.invokestatic 305, 3) := by decide +kernel
theorem dX11_strict_33 : decode cX11_strict 33 = .ok (.istore 4, 2) := by decide +kernel
theorem dX11_strict_35 : decode cX11_strict 35 = .ok (.iload 4, 2) := by decide +kernel
theorem dX11_strict_37 : decode cX11_strict 37 = .ok (.iload_n 2, 1) := by decide +kernel
theorem dX11_strict_38 : decode cX11_strict 38 = .ok (.if_icmp .ge 8, 3) := by decide +kernel
theorem dX11_strict_41 : decode cX11_strict 41 = .ok (.iload 4, 2) := by decide +kernel
theorem dX11_strict_43 : decode cX11_strict 43 = .ok (.istore_n 2, 1) := by decide +kernel
theorem dX11_strict_44 : decode cX11_strict 44 = .ok (.iload_n 3, 1) := by decide +kernel
theorem dX11_strict_45 : decode cX11_strict 45 = .ok (.istore_n 1, 1) := by decide +kernel
theorem dX11_strict_46 : decode cX11_strict 46 = .ok (.iinc 3 1, 3) := by decide +kernel
theorem dX11_strict_49 : decode cX11_strict 49 = .ok (.goto (-42), 3) := by decide +kernel
theorem dX11_strict_52 : decode cX11_strict 52 = .ok (.iload_n 1, 1) := by decide +kernel
theorem dX11_strict_53 : decode cX11_strict 53 = .ok (.ireturn, 1) := by decide +kernel
theorem dX11_alike_0 : decode cX11_alike 0 = .ok (.iconst 0, 1) := by decide +kernel
theorem dX11_alike_1 : decode cX11_alike 1 = .ok (.istore_n 1, 1) := by decide +kernel
theorem dX11_alike_2 : decode cX11_alike 2 = .ok (.iconst 0, 1) := by decide +kernel
theorem dX11_alike_3 : decode cX11_alike 3 = .ok (.istore_n 2, 1) := by decide +kernel
theorem dX11_alike_4 : decode cX11_alike 4 = .ok (.iload_n 2, 1) := by decide +kernel
theorem dX11_alike_5 : decode cX11_alike 5 = .ok (.aload_n 0, 1) := by decide +kernel
theorem dX11_alike_6 : decode cX11_alike 6 = .ok (.getfield 19, 3) := by decide +kernel
theorem dX11_alike_9 : decode cX11_alike 9 = .ok (.getfield 169, 3) := by decide +kernel
theorem dX11_alike_12 : decode cX11_alike 12 = .ok (.if_icmp .ge 65, 3) := by decide +kernel
theorem dX11_alike_15 : decode cX11_alike 15 = .ok (.aload_n 0, 1) := by decide +kernel
theorem dX11_alike_16 : decode cX11_alike 16 = .ok (.getfield 48, 3) := by decide +kernel
theorem dX11_alike_19 : decode cX11_alike 19 = .ok (.aload_n 0, 1) := by decide +kernel
theorem dX11_alike_20 : decode cX11_alike 20 = .ok (.getfield 64, 3) := by decide +kernel
theorem dX11_alike_23 : decode cX11_alike 23 = .ok (.iload_n 2, 1) := by decide +kernel
theorem dX11_alike_24 : decode cX11_alike 24 = .ok (.invokevirtual 165, 3) := by decide +kernel
theorem dX11_alike_27 : decode cX11_alike 27 = .ok (.istore_n 3, 1) := by decide +kernel
theorem dX11_alike_28 : decode cX11_alike 28 = .ok (.iload_n 2, 1) := by decide +kernel
theorem dX11_alike_29 : decode cX11_alike 29 = .ok (.iconst 1, 1) := by decide +kernel
theorem dX11_alike_30 : decode cX11_alike 30 = .ok (.iadd, 1) := by decide +kernel
theorem dX11_alike_31 : decode cX11_alike 31 = .ok (.istore 4, 2) := by decide +kernel
theorem dX11_alike_33 : decode cX11_alike 33 = .ok (.iload 4, 2) := by decide +kernel
theorem dX11_alike_35 : decode cX11_alike 35 = .ok (.aload_n 0, 1) := by decide +kernel
theorem dX11_alike_36 : decode cX11_alike 36 = .ok (.getfield 19, 3) := by decide +kernel
theorem dX11_alike_39 : decode cX11_alike 39 = .ok (.getfield 169, 3) := by decide +kernel
theorem dX11_alike_42 : decode cX11_alike 42 = .ok (.if_icmp .ge 29, 3) := by decide +kernel
theorem dX11_alike_45 : decode cX11_alike 45 = .ok (.aload_n 0, 1) := by decide +kernel
theorem dX11_alike_46 : decode cX11_alike 46 = .ok (.getfield 48, 3) := by decide +kernel
theorem dX11_alike_49 : decode cX11_alike 49 = .ok (.aload_n 0, 1) := by decide +kernel
theorem dX11_alike_50 : decode cX11_alike 50 = .ok (.getfield 64, 3) := by decide +kernel
theorem dX11_alike_53 : decode cX11_alike 53 = .ok (.iload 4, 2) := by decide +kernel
theorem dX11_alike_55 : decode cX11_alike 55 = .ok (.invokevirtual 165, 3) := by decide +kernel
theorem dX11_alike_58 : decode cX11_alike 58 = .ok (.iload_n 3, 1) := by decide +kernel
theorem dX11_alike_59 : decode cX11_alike 59 = .ok (.if_icmp .ne 6, 3) := by decide +kernel
theorem dX11_alike_62 : decode cX11_alike 62 = .ok (.iinc 1 1, 3) := by decide +kernel
theorem dX11_alike_65 : decode cX11_alike 65 = .ok (.iinc 4 1, 3) := by decide +kernel
theorem dX11_alike_68 : decode cX11_alike 68 = .ok (.goto (-35), 3) := by decide +kernel
theorem dX11_alike_71 : decode cX11_alike 71 = .ok (.iinc 2 1, 3) := by decide +kernel
theorem dX11_alike_74 : decode cX11_alike 74 = .ok (.goto (-70), 3) := by decide +kernel
theorem dX11_alike_77 : decode cX11_alike 77 = .ok (.iload_n 1, 1) := by decide +kernel
theorem dX11_alike_78 : decode cX11_alike 78 = .ok (.ireturn, 1) := by decide +kernel
theorem dX11_see_0 : decode cX11_see 0 = .ok (.aload_n 0, 1) := by decide +kernel
theorem dX11_see_1 : decode cX11_see 1 = .ok (.iload_n 1, 1) := by decide +kernel
theorem dX11_see_2 : decode cX11_see 2 = .ok (.invokevirtual 156, 3) := by decide +kernel
theorem dX11_see_5 : decode cX11_see 5 = .ok (.ifCond .eq 15, 3) := by decide +kernel
theorem dX11_see_8 : decode cX11_see 8 = .ok (.aload_n 0, 1) := by decide +kernel
theorem dX11_see_9 : decode cX11_see 9 = .ok (.getfield 74, 3) := by decide +kernel
theorem dX11_see_12 : decode cX11_see 12 = .ok (.getfield 192, 3) := by decide +kernel
theorem dX11_see_15 : decode cX11_see 15 = .ok (.bipush 8, 2) := by decide +kernel
theorem dX11_see_17 : decode cX11_see 17 = .ok (.if_icmp .lt 5, 3) := by decide +kernel
theorem dX11_see_20 : decode cX11_see 20 = .ok (.iconst 0, 1) := by decide +kernel
theorem dX11_see_21 : decode cX11_see 21 = .ok (.ireturn, 1) := by decide +kernel
theorem dX11_see_22 : decode cX11_see 22 = .ok (.aload_n 0, 1) := by decide +kernel
theorem dX11_see_23 : decode cX11_see 23 = .ok (.getfield 19, 3) := by decide +kernel
theorem dX11_see_26 : decode cX11_see 26 = .ok (.iload_n 1, 1) := by decide +kernel
theorem dX11_see_27 : decode cX11_see 27 = .ok (.aload_n 0, 1) := by decide +kernel
theorem dX11_see_28 : decode cX11_see 28 = .ok (.getfield 64, 3) := by decide +kernel
theorem dX11_see_31 : decode cX11_see 31 = .ok (.getfield 181, 3) := by decide +kernel
theorem dX11_see_34 : decode cX11_see 34 = .ok (.invokevirtual 310, 3) := by decide +kernel
theorem dX11_see_37 : decode cX11_see 37 = .ok (.istore_n 3, 1) := by decide +kernel
theorem dX11_see_38 : decode cX11_see 38 = .ok (.aload_n 0, 1) := by decide +kernel
theorem dX11_see_39 : decode cX11_see 39 = .ok (.getfield 74, 3) := by decide +kernel
theorem dX11_see_42 : decode cX11_see 42 = .ok (.iload_n 2, 1) := by decide +kernel
theorem dX11_see_43 : decode cX11_see 43 = .ok (.ifCond .eq 7, 3) := by decide +kernel
theorem dX11_see_46 : decode cX11_see 46 = .ok (.iload_n 3, 1) := by decide +kernel
theorem dX11_see_47 : decode cX11_see 47 = .ok (.goto 6, 3) := by decide +kernel
theorem dX11_see_50 : decode cX11_see 50 = .ok (.iload_n 3, 1) := by decide +kernel
theorem dX11_see_51 : decode cX11_see 51 = .ok (.iconst (-1), 1) := by decide +kernel
theorem dX11_see_52 : decode cX11_see 52 = .ok (.ixor, 1) := by decide +kernel
theorem dX11_see_53 : decode cX11_see 53 = .ok (.invokevirtual 313, 3) := by decide +kernel
theorem dX11_see_56 : decode cX11_see 56 = .ok (.iconst 1, 1) := by decide +kernel
theorem dX11_see_57 : decode cX11_see 57 = .ok (.ireturn, 1) := by decide +kernel
theorem dX11_lengths_0 : decode cX11_lengths 0 = .ok (.aload_n 0, 1) := by decide +kernel
theorem dX11_lengths_1 : decode cX11_lengths 1 = .ok (.getfield 74, 3) := by decide +kernel
theorem dX11_lengths_4 : decode cX11_lengths 4 = .ok (.getfield 316, 3) := by decide +kernel
theorem dX11_lengths_7 : decode cX11_lengths 7 = .ok (.istore_n 2, 1) := by decide +kernel
theorem dX11_lengths_8 : decode cX11_lengths 8 = .ok (.iload_n 1, 1) := by decide +kernel
theorem dX11_lengths_9 : decode cX11_lengths 9 = .ok (.tableswitch 61 0 2 #[27, 32, 45], 27) := by decide +kernel
theorem dX11_lengths_36 : decode cX11_lengths 36 = .ok (.iload_n 2, 1) := by decide +kernel
theorem dX11_lengths_37 : decode cX11_lengths 37 = .ok (.invokestatic 305, 3) := by decide +kernel
theorem dX11_lengths_40 : decode cX11_lengths 40 = .ok (.ireturn, 1) := by decide +kernel
theorem dX11_lengths_41 : decode cX11_lengths 41 = .ok (.iload_n 2, 1) := by decide +kernel
theorem dX11_lengths_42 : decode cX11_lengths 42 = .ok (.ifCond .ne 7, 3) := by decide +kernel
theorem dX11_lengths_45 : decode cX11_lengths 45 = .ok (.iconst (-1), 1) := by decide +kernel
theorem dX11_lengths_46 : decode cX11_lengths 46 = .ok (.goto 7, 3) := by decide +kernel
theorem dX11_lengths_49 : decode cX11_lengths 49 = .ok (.iload_n 2, 1) := by decide +kernel
theorem dX11_lengths_50 : decode cX11_lengths 50 = .ok (.invokestatic 319, 3) := by decide +kernel
theorem dX11_lengths_53 : decode cX11_lengths 53 = .ok (.ireturn, 1) := by decide +kernel
theorem dX11_lengths_54 : decode cX11_lengths 54 = .ok (.iload_n 2, 1) := by decide +kernel
theorem dX11_lengths_55 : decode cX11_lengths 55 = .ok (.ifCond .ne 7, 3) := by decide +kernel
theorem dX11_lengths_58 : decode cX11_lengths 58 = .ok (.iconst (-1), 1) := by decide +kernel
theorem dX11_lengths_59 : decode cX11_lengths 59 = .ok (.goto 10, 3) := by decide +kernel
theorem dX11_lengths_62 : decode cX11_lengths 62 = .ok (.bipush 31, 2) := by decide +kernel
theorem dX11_lengths_64 : decode cX11_lengths 64 = .ok (.iload_n 2, 1) := by decide +kernel
theorem dX11_lengths_65 : decode cX11_lengths 65 = .ok (.invokestatic 322, 3) := by decide +kernel
theorem dX11_lengths_68 : decode cX11_lengths 68 = .ok (.isub, 1) := by decide +kernel
theorem dX11_lengths_69 : decode cX11_lengths 69 = .ok (.ireturn, 1) := by decide +kernel
theorem dX11_lengths_70 : decode cX11_lengths 70 = .ok (.iconst (-1), 1) := by decide +kernel
theorem dX11_lengths_71 : decode cX11_lengths 71 = .ok (.ireturn, 1) := by decide +kernel
theorem dX11_ask_0 : decode cX11_ask 0 = .ok (.aload_n 0, 1) := by decide +kernel
theorem dX11_ask_1 : decode cX11_ask 1 = .ok (.getfield 74, 3) := by decide +kernel
theorem dX11_ask_4 : decode cX11_ask 4 = .ok (.getfield 316, 3) := by decide +kernel
theorem dX11_ask_7 : decode cX11_ask 7 = .ok (.istore_n 1, 1) := by decide +kernel
theorem dX11_ask_8 : decode cX11_ask 8 = .ok (.iload_n 1, 1) := by decide +kernel
theorem dX11_ask_9 : decode cX11_ask 9 = .ok (.invokestatic 305, 3) := by decide +kernel
theorem dX11_ask_12 : decode cX11_ask 12 = .ok (.istore_n 2, 1) := by decide +kernel
theorem dX11_ask_13 : decode cX11_ask 13 = .ok (.iconst (-1), 1) := by decide +kernel
theorem dX11_ask_14 : decode cX11_ask 14 = .ok (.istore_n 3, 1) := by decide +kernel
theorem dX11_ask_15 : decode cX11_ask 15 = .ok (.iload_n 2, 1) := by decide +kernel
theorem dX11_ask_16 : decode cX11_ask 16 = .ok (.istore 4, 2) := by decide +kernel
theorem dX11_ask_18 : decode cX11_ask 18 = .ok (.iconst 0, 1) := by decide +kernel
theorem dX11_ask_19 : decode cX11_ask 19 = .ok (.istore 5, 2) := by decide +kernel
theorem dX11_ask_21 : decode cX11_ask 21 = .ok (.iload 5, 2) := by decide +kernel
theorem dX11_ask_23 : decode cX11_ask 23 = .ok (.aload_n 0, 1) := by decide +kernel
theorem dX11_ask_24 : decode cX11_ask 24 = .ok (.getfield 19, 3) := by decide +kernel
theorem dX11_ask_27 : decode cX11_ask 27 = .ok (.getfield 169, 3) := by decide +kernel
theorem dX11_ask_30 : decode cX11_ask 30 = .ok (.if_icmp .ge 57, 3) := by decide +kernel
theorem dX11_ask_33 : decode cX11_ask 33 = .ok (.iload_n 1, 1) := by decide +kernel
theorem dX11_ask_34 : decode cX11_ask 34 = .ok (.aload_n 0, 1) := by decide +kernel
theorem dX11_ask_35 : decode cX11_ask 35 = .ok (.getfield 19, 3) := by decide +kernel
theorem dX11_ask_38 : decode cX11_ask 38 = .ok (.iload 5, 2) := by decide +kernel
theorem dX11_ask_40 : decode cX11_ask 40 = .ok (.aload_n 0, 1) := by decide +kernel
theorem dX11_ask_41 : decode cX11_ask 41 = .ok (.getfield 64, 3) := by decide +kernel
theorem dX11_ask_44 : decode cX11_ask 44 = .ok (.getfield 181, 3) := by decide +kernel
theorem dX11_ask_47 : decode cX11_ask 47 = .ok (.invokevirtual 310, 3) := by decide +kernel
theorem dX11_ask_50 : decode cX11_ask 50 = .ok (.iand, 1) := by decide +kernel
theorem dX11_ask_51 : decode cX11_ask 51 = .ok (.invokestatic 305, 3) := by decide +kernel
theorem dX11_ask_54 : decode cX11_ask 54 = .ok (.istore 6, 2) := by decide +kernel
theorem dX11_ask_56 : decode cX11_ask 56 = .ok (.iload 6, 2) := by decide +kernel
theorem dX11_ask_58 : decode cX11_ask 58 = .ok (.iload_n 2, 1) := by decide +kernel
theorem dX11_ask_59 : decode cX11_ask 59 = .ok (.iload 6, 2) := by decide +kernel
theorem dX11_ask_61 : decode cX11_ask 61 = .ok (.isub, 1) := by decide +kernel
theorem dX11_ask_62 : decode cX11_ask 62 = .ok (.invokestatic 284, 3) := by decide +kernel
theorem dX11_ask_65 : decode cX11_ask 65 = .ok (.istore 7, 2) := by decide +kernel
theorem dX11_ask_67 : decode cX11_ask 67 = .ok (.iload 7, 2) := by decide +kernel
theorem dX11_ask_69 : decode cX11_ask 69 = .ok (.iload 4, 2) := by decide +kernel
theorem dX11_ask_71 : decode cX11_ask 71 = .ok (.if_icmp .ge 10, 3) := by decide +kernel
theorem dX11_ask_74 : decode cX11_ask 74 = .ok (.iload 7, 2) := by decide +kernel
theorem dX11_ask_76 : decode cX11_ask 76 = .ok (.istore 4, 2) := by decide +kernel
theorem dX11_ask_78 : decode cX11_ask 78 = .ok (.iload 5, 2) := by decide +kernel
theorem dX11_ask_80 : decode cX11_ask 80 = .ok (.istore_n 3, 1) := by decide +kernel
theorem dX11_ask_81 : decode cX11_ask 81 = .ok (.iinc 5 1, 3) := by decide +kernel
theorem dX11_ask_84 : decode cX11_ask 84 = .ok (.goto (-63), 3) := by decide +kernel
theorem dX11_ask_87 : decode cX11_ask 87 = .ok (.iload_n 3, 1) := by decide +kernel
theorem dX11_ask_88 : decode cX11_ask 88 = .ok (.ireturn, 1) := by decide +kernel
theorem dX11_isStake_0 : decode cX11_isStake 0 = .ok (.iload_n 0, 1) := by decide +kernel
theorem dX11_isStake_1 : decode cX11_isStake 1 = .ok (.ifCond .lt 13, 3) := by decide +kernel
theorem dX11_isStake_4 : decode cX11_isStake 4 = .ok (.iload_n 0, 1) := by decide +kernel
theorem dX11_isStake_5 : decode cX11_isStake 5 = .ok (.bipush 9, 2) := by decide +kernel
theorem dX11_isStake_7 : decode cX11_isStake 7 = .ok (.if_icmp .gt 7, 3) := by decide +kernel
theorem dX11_isStake_10 : decode cX11_isStake 10 = .ok (.iconst 1, 1) := by decide +kernel
theorem dX11_isStake_11 : decode cX11_isStake 11 = .ok (.goto 4, 3) := by decide +kernel
theorem dX11_isStake_14 : decode cX11_isStake 14 = .ok (.iconst 0, 1) := by decide +kernel
theorem dX11_isStake_15 : decode cX11_isStake 15 = .ok (.ireturn, 1) := by decide +kernel
theorem dX11_years_0 : decode cX11_years 0 = .ok (.iload_n 1, 1) := by decide +kernel
theorem dX11_years_1 : decode cX11_years 1 = .ok (.ifCond .lt 30, 3) := by decide +kernel
theorem dX11_years_4 : decode cX11_years 4 = .ok (.iload_n 1, 1) := by decide +kernel
theorem dX11_years_5 : decode cX11_years 5 = .ok (.sipush 9999, 3) := by decide +kernel
theorem dX11_years_8 : decode cX11_years 8 = .ok (.if_icmp .gt 23, 3) := by decide +kernel
theorem dX11_years_11 : decode cX11_years 11 = .ok (.iload_n 2, 1) := by decide +kernel
theorem dX11_years_12 : decode cX11_years 12 = .ok (.iconst 1, 1) := by decide +kernel
theorem dX11_years_13 : decode cX11_years 13 = .ok (.if_icmp .lt 18, 3) := by decide +kernel
theorem dX11_years_16 : decode cX11_years 16 = .ok (.iload_n 2, 1) := by decide +kernel
theorem dX11_years_17 : decode cX11_years 17 = .ok (.bipush 99, 2) := by decide +kernel
theorem dX11_years_19 : decode cX11_years 19 = .ok (.if_icmp .gt 12, 3) := by decide +kernel
theorem dX11_years_22 : decode cX11_years 22 = .ok (.iload_n 3, 1) := by decide +kernel
theorem dX11_years_23 : decode cX11_years 23 = .ok (.ifCond .lt 8, 3) := by decide +kernel
theorem dX11_years_26 : decode cX11_years 26 = .ok (.iload_n 3, 1) := by decide +kernel
theorem dX11_years_27 : decode cX11_years 27 = .ok (.iconst 2, 1) := by decide +kernel
theorem dX11_years_28 : decode cX11_years 28 = .ok (.if_icmp .le 5, 3) := by decide +kernel
theorem dX11_years_31 : decode cX11_years 31 = .ok (.iconst (-1), 1) := by decide +kernel
theorem dX11_years_32 : decode cX11_years 32 = .ok (.ireturn, 1) := by decide +kernel
theorem dX11_years_33 : decode cX11_years 33 = .ok (.aload_n 0, 1) := by decide +kernel
theorem dX11_years_34 : decode cX11_years 34 = .ok (.getfield 68, 3) := by decide +kernel
theorem dX11_years_37 : decode cX11_years 37 = .ok (.aload_n 0, 1) := by decide +kernel
theorem dX11_years_38 : decode cX11_years 38 = .ok (.getfield 64, 3) := by decide +kernel
theorem dX11_years_41 : decode cX11_years 41 = .ok (.invokevirtual 221, 3) := by decide +kernel
theorem dX11_years_44 : decode cX11_years 44 = .ok (.iload_n 1, 1) := by decide +kernel
theorem dX11_years_45 : decode cX11_years 45 = .ok (.i2l, 1) := by decide +kernel
theorem dX11_years_46 : decode cX11_years 46 = .ok (.lstore 4, 2) := by decide +kernel
theorem dX11_years_48 : decode cX11_years 48 = .ok (.iconst 0, 1) := by decide +kernel
theorem dX11_years_49 : decode cX11_years 49 = .ok (.istore 6, 2) := by decide +kernel
theorem dX11_years_51 : decode cX11_years 51 = .ok (.iconst 0, 1) := by decide +kernel
theorem dX11_years_52 : decode cX11_years 52 = .ok (.istore 7, 2) := by decide +kernel
theorem dX11_years_54 : decode cX11_years 54 = .ok (.iconst 0, 1) := by decide +kernel
theorem dX11_years_55 : decode cX11_years 55 = .ok (.istore 8, 2) := by decide +kernel
theorem dX11_years_57 : decode cX11_years 57 = .ok (.iload 8, 2) := by decide +kernel
theorem dX11_years_59 : decode cX11_years 59 = .ok (.iload_n 2, 1) := by decide +kernel
theorem dX11_years_60 : decode cX11_years 60 = .ok (.if_icmp .ge 152, 3) := by decide +kernel
theorem dX11_years_63 : decode cX11_years 63 = .ok (.iconst 0, 1) := by decide +kernel
theorem dX11_years_64 : decode cX11_years 64 = .ok (.istore 9, 2) := by decide +kernel
theorem dX11_years_66 : decode cX11_years 66 = .ok (.iload 9, 2) := by decide +kernel
theorem dX11_years_68 : decode cX11_years 68 = .ok (.aload_n 0, 1) := by decide +kernel
theorem dX11_years_69 : decode cX11_years 69 = .ok (.getfield 19, 3) := by decide +kernel
theorem dX11_years_72 : decode cX11_years 72 = .ok (.getfield 172, 3) := by decide +kernel
theorem dX11_years_75 : decode cX11_years 75 = .ok (.if_icmp .ge 120, 3) := by decide +kernel
theorem dX11_years_78 : decode cX11_years 78 = .ok (.lload 4, 2) := by decide +kernel
theorem dX11_years_80 : decode cX11_years 80 = .ok (.invokestatic 348, 3) := by decide +kernel
theorem dX11_years_83 : decode cX11_years 83 = .ok (.lstore 4, 2) := by decide +kernel
theorem dX11_years_85 : decode cX11_years 85 = .ok (.lload 4, 2) := by decide +kernel
theorem dX11_years_87 : decode cX11_years 87 = .ok (.aload_n 0, 1) := by decide +kernel
theorem dX11_years_88 : decode cX11_years 88 = .ok (.getfield 19, 3) := by decide +kernel
theorem dX11_years_91 : decode cX11_years 91 = .ok (.getfield 169, 3) := by decide +kernel
theorem dX11_years_94 : decode cX11_years 94 = .ok (.invokestatic 352, 3) := by decide +kernel
theorem dX11_years_97 : decode cX11_years 97 = .ok (.istore 10, 2) := by decide +kernel
theorem dX11_years_99 : decode cX11_years 99 = .ok (.aload_n 0, 1) := by decide +kernel
theorem dX11_years_100 : decode cX11_years 100 = .ok (.getfield 48, 3) := by decide +kernel
theorem dX11_years_103 : decode cX11_years 103 = .ok (.aload_n 0, 1) := by decide +kernel
theorem dX11_years_104 : decode cX11_years 104 = .ok (.getfield 68, 3) := by decide +kernel
theorem dX11_years_107 : decode cX11_years 107 = .ok (.iload 9, 2) := by decide +kernel
theorem dX11_years_109 : decode cX11_years 109 = .ok (.iload 10, 2) := by decide +kernel
theorem dX11_years_111 : decode cX11_years 111 = .ok (.invokevirtual 195, 3) := by decide +kernel
theorem dX11_years_114 : decode cX11_years 114 = .ok (.ifCond .eq 20, 3) := by decide +kernel
theorem dX11_years_117 : decode cX11_years 117 = .ok (.aload_n 0, 1) := by decide +kernel
theorem dX11_years_118 : decode cX11_years 118 = .ok (.getfield 68, 3) := by decide +kernel
theorem dX11_years_121 : decode cX11_years 121 = .ok (.iload 9, 2) := by decide +kernel
theorem dX11_years_123 : decode cX11_years 123 = .ok (.iload 10, 2) := by decide +kernel
theorem dX11_years_125 : decode cX11_years 125 = .ok (.invokevirtual 202, 3) := by decide +kernel
theorem dX11_years_128 : decode cX11_years 128 = .ok (.iinc 6 1, 3) := by decide +kernel
theorem dX11_years_131 : decode cX11_years 131 = .ok (.goto 32, 3) := by decide +kernel
theorem dX11_years_134 : decode cX11_years 134 = .ok (.aload_n 0, 1) := by decide +kernel
theorem dX11_years_135 : decode cX11_years 135 = .ok (.getfield 19, 3) := by decide +kernel
theorem dX11_years_138 : decode cX11_years 138 = .ok (.getfield 162, 3) := by decide +kernel
theorem dX11_years_141 : decode cX11_years 141 = .ok (.aload_n 0, 1) := by decide +kernel
theorem dX11_years_142 : decode cX11_years 142 = .ok (.getfield 68, 3) := by decide +kernel
theorem dX11_years_145 : decode cX11_years 145 = .ok (.getfield 141, 3) := by decide +kernel
theorem dX11_years_148 : decode cX11_years 148 = .ok (.iload 9, 2) := by decide +kernel
theorem dX11_years_150 : decode cX11_years 150 = .ok (.iaload, 1) := by decide +kernel
theorem dX11_years_151 : decode cX11_years 151 = .ok (.iaload, 1) := by decide +kernel
theorem dX11_years_152 : decode cX11_years 152 = .ok (.iload 10, 2) := by decide +kernel
theorem dX11_years_154 : decode cX11_years 154 = .ok (.invokestatic 277, 3) := by decide +kernel
theorem dX11_years_157 : decode cX11_years 157 = .ok (.ifCond .eq 6, 3) := by decide +kernel
theorem dX11_years_160 : decode cX11_years 160 = .ok (.iinc 7 1, 3) := by decide +kernel
theorem dX11_years_163 : decode cX11_years 163 = .ok (.lload 4, 2) := by decide +kernel
theorem dX11_years_165 : decode cX11_years 165 = .ok (.invokestatic 348, 3) := by decide +kernel
theorem dX11_years_168 : decode cX11_years 168 = .ok (.lstore 4, 2) := by decide +kernel
theorem dX11_years_170 : decode cX11_years 170 = .ok (.lload 4, 2) := by decide +kernel
theorem dX11_years_172 : decode cX11_years 172 = .ok (.bipush 20, 2) := by decide +kernel
theorem dX11_years_174 : decode cX11_years 174 = .ok (.invokestatic 352, 3) := by decide +kernel
theorem dX11_years_177 : decode cX11_years 177 = .ok (.ifCond .ne 12, 3) := by decide +kernel
theorem dX11_years_180 : decode cX11_years 180 = .ok (.aload_n 0, 1) := by decide +kernel
theorem dX11_years_181 : decode cX11_years 181 = .ok (.getfield 68, 3) := by decide +kernel
theorem dX11_years_184 : decode cX11_years 184 = .ok (.iload 9, 2) := by decide +kernel
theorem dX11_years_186 : decode cX11_years 186 = .ok (.invokevirtual 213, 3) := by decide +kernel
theorem dX11_years_189 : decode cX11_years 189 = .ok (.iinc 9 1, 3) := by decide +kernel
theorem dX11_years_192 : decode cX11_years 192 = .ok (.goto (-126), 3) := by decide +kernel
theorem dX11_years_195 : decode cX11_years 195 = .ok (.aload_n 0, 1) := by decide +kernel
theorem dX11_years_196 : decode cX11_years 196 = .ok (.getfield 48, 3) := by decide +kernel
theorem dX11_years_199 : decode cX11_years 199 = .ok (.aload_n 0, 1) := by decide +kernel
theorem dX11_years_200 : decode cX11_years 200 = .ok (.getfield 68, 3) := by decide +kernel
theorem dX11_years_203 : decode cX11_years 203 = .ok (.invokevirtual 217, 3) := by decide +kernel
theorem dX11_years_206 : decode cX11_years 206 = .ok (.iinc 8 1, 3) := by decide +kernel
theorem dX11_years_209 : decode cX11_years 209 = .ok (.goto (-152), 3) := by decide +kernel
theorem dX11_years_212 : decode cX11_years 212 = .ok (.iload_n 3, 1) := by decide +kernel
theorem dX11_years_213 : decode cX11_years 213 = .ok (.iconst 2, 1) := by decide +kernel
theorem dX11_years_214 : decode cX11_years 214 = .ok (.if_icmp .ne 18, 3) := by decide +kernel
theorem dX11_years_217 : decode cX11_years 217 = .ok (.aload_n 0, 1) := by decide +kernel
theorem dX11_years_218 : decode cX11_years 218 = .ok (.getfield 68, 3) := by decide +kernel
theorem dX11_years_221 : decode cX11_years 221 = .ok (.aload_n 0, 1) := by decide +kernel
theorem dX11_years_222 : decode cX11_years 222 = .ok (.getfield 19, 3) := by decide +kernel
theorem dX11_years_225 : decode cX11_years 225 = .ok (.getfield 172, 3) := by decide +kernel
theorem dX11_years_228 : decode cX11_years 228 = .ok (.invokevirtual 184, 3) := by decide +kernel
theorem dX11_years_231 : decode cX11_years 231 = .ok (.ireturn, 1) := by decide +kernel
theorem dX11_years_232 : decode cX11_years 232 = .ok (.iload_n 3, 1) := by decide +kernel
theorem dX11_years_233 : decode cX11_years 233 = .ok (.ifCond .ne 8, 3) := by decide +kernel
theorem dX11_years_236 : decode cX11_years 236 = .ok (.iload 6, 2) := by decide +kernel
theorem dX11_years_238 : decode cX11_years 238 = .ok (.goto 5, 3) := by decide +kernel
theorem dX11_years_241 : decode cX11_years 241 = .ok (.iload 7, 2) := by decide +kernel
theorem dX11_years_243 : decode cX11_years 243 = .ok (.ireturn, 1) := by decide +kernel
theorem dX11_nextDraw_0 : decode cX11_nextDraw 0 = .ok (.lload_n 0, 1) := by decide +kernel
theorem dX11_nextDraw_1 : decode cX11_nextDraw 1 = .ok (.ldc2_w 356, 3) := by decide +kernel
theorem dX11_nextDraw_4 : decode cX11_nextDraw 4 = .ok (.lmul, 1) := by decide +kernel
