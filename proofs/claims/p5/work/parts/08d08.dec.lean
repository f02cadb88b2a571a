theorem dX12_needOf_94 : decode cX12_needOf 94 = .ok (.iconst 1, 1) := by decide +kernel
theorem dX12_needOf_95 : decode cX12_needOf 95 = .ok (.iadd, 1) := by decide +kernel
theorem dX12_needOf_96 : decode cX12_needOf 96 = .ok (.iastore, 1) := by decide +kernel
theorem dX12_needOf_97 : decode cX12_needOf 97 = .ok (.iinc 5 1, 3) := by decide +kernel
theorem dX12_needOf_100 : decode cX12_needOf 100 = .ok (.goto (-54), 3) := by decide +kernel
theorem dX12_needOf_103 : decode cX12_needOf 103 = .ok (.aload_n 0, 1) := by decide +kernel
theorem dX12_needOf_104 : decode cX12_needOf 104 = .ok (.getfield 114, 3) := by decide +kernel
theorem dX12_needOf_107 : decode cX12_needOf 107 = .ok (.iconst 0, 1) := by decide +kernel
theorem dX12_needOf_108 : decode cX12_needOf 108 = .ok (.aload_n 0, 1) := by decide +kernel
theorem dX12_needOf_109 : decode cX12_needOf 109 = .ok (.getfield 108, 3) := by decide +kernel
theorem dX12_needOf_112 : decode cX12_needOf 112 = .ok (.iconst 0, 1) := by decide +kernel
theorem dX12_needOf_113 : decode cX12_needOf 113 = .ok (.invokestatic 379, 3) := by decide +kernel
theorem dX12_needOf_116 : decode cX12_needOf 116 = .ok (.iload 4, 2) := by decide +kernel
theorem dX12_needOf_118 : decode cX12_needOf 118 = .ok (.ireturn, 1) := by decide +kernel
theorem dX12_need_0 : decode cX12_need 0 = .ok (.aload_n 0, 1) := by decide +kernel
theorem dX12_need_1 : decode cX12_need 1 = .ok (.iconst 0, 1) := by decide +kernel
theorem dX12_need_2 : decode cX12_need 2 = .ok (.putfield 129, 3) := by decide +kernel
theorem dX12_need_5 : decode cX12_need 5 = .ok (.aload_n 0, 1) := by decide +kernel
theorem dX12_need_6 : decode cX12_need 6 = .ok (.iload_n 1, 1) := by decide +kernel
theorem dX12_need_7 : decode cX12_need 7 = .ok (.invokevirtual 370, 3) := by decide +kernel
theorem dX12_need_10 : decode cX12_need 10 = .ok (.ifCond .eq 20, 3) := by decide +kernel
theorem dX12_need_13 : decode cX12_need 13 = .ok (.aload_n 0, 1) := by decide +kernel
theorem dX12_need_14 : decode cX12_need 14 = .ok (.iload_n 2, 1) := by decide +kernel
theorem dX12_need_15 : decode cX12_need 15 = .ok (.invokevirtual 373, 3) := by decide +kernel
theorem dX12_need_18 : decode cX12_need 18 = .ok (.ifCond .eq 12, 3) := by decide +kernel
theorem dX12_need_21 : decode cX12_need 21 = .ok (.aload_n 0, 1) := by decide +kernel
theorem dX12_need_22 : decode cX12_need 22 = .ok (.iload_n 1, 1) := by decide +kernel
theorem dX12_need_23 : decode cX12_need 23 = .ok (.iload_n 2, 1) := by decide +kernel
theorem dX12_need_24 : decode cX12_need 24 = .ok (.invokevirtual 432, 3) := by decide +kernel
theorem dX12_need_27 : decode cX12_need 27 = .ok (.goto 4, 3) := by decide +kernel
theorem dX12_need_30 : decode cX12_need 30 = .ok (.iconst (-1), 1) := by decide +kernel
theorem dX12_need_31 : decode cX12_need 31 = .ok (.ireturn, 1) := by decide +kernel
theorem dX12_cheapest_0 : decode cX12_cheapest 0 = .ok (.aload_n 0, 1) := by decide +kernel
theorem dX12_cheapest_1 : decode cX12_cheapest 1 = .ok (.iconst 0, 1) := by decide +kernel
theorem dX12_cheapest_2 : decode cX12_cheapest 2 = .ok (.putfield 129, 3) := by decide +kernel
theorem dX12_cheapest_5 : decode cX12_cheapest 5 = .ok (.aload_n 0, 1) := by decide +kernel
theorem dX12_cheapest_6 : decode cX12_cheapest 6 = .ok (.iload_n 1, 1) := by decide +kernel
theorem dX12_cheapest_7 : decode cX12_cheapest 7 = .ok (.invokevirtual 370, 3) := by decide +kernel
theorem dX12_cheapest_10 : decode cX12_cheapest 10 = .ok (.ifCond .ne 5, 3) := by decide +kernel
theorem dX12_cheapest_13 : decode cX12_cheapest 13 = .ok (.iconst (-1), 1) := by decide +kernel
theorem dX12_cheapest_14 : decode cX12_cheapest 14 = .ok (.ireturn, 1) := by decide +kernel
theorem dX12_cheapest_15 : decode cX12_cheapest 15 = .ok (.iconst (-1), 1) := by decide +kernel
theorem dX12_cheapest_16 : decode cX12_cheapest 16 = .ok (.istore_n 2, 1) := by decide +kernel
theorem dX12_cheapest_17 : decode cX12_cheapest 17 = .ok (.iconst 0, 1) := by decide +kernel
theorem dX12_cheapest_18 : decode cX12_cheapest 18 = .ok (.istore_n 3, 1) := by decide +kernel
theorem dX12_cheapest_19 : decode cX12_cheapest 19 = .ok (.iconst 0, 1) := by decide +kernel
theorem dX12_cheapest_20 : decode cX12_cheapest 20 = .ok (.istore 4, 2) := by decide +kernel
theorem dX12_cheapest_22 : decode cX12_cheapest 22 = .ok (.iload 4, 2) := by decide +kernel
theorem dX12_cheapest_24 : decode cX12_cheapest 24 = .ok (.aload_n 0, 1) := by decide +kernel
theorem dX12_cheapest_25 : decode cX12_cheapest 25 = .ok (.getfield 13, 3) := by decide +kernel
theorem dX12_cheapest_28 : decode cX12_cheapest 28 = .ok (.iconst 0, 1) := by decide +kernel
theorem dX12_cheapest_29 : decode cX12_cheapest 29 = .ok (.iaload, 1) := by decide +kernel
theorem dX12_cheapest_30 : decode cX12_cheapest 30 = .ok (.if_icmp .ge 42, 3) := by decide +kernel
theorem dX12_cheapest_33 : decode cX12_cheapest 33 = .ok (.aload_n 0, 1) := by decide +kernel
theorem dX12_cheapest_34 : decode cX12_cheapest 34 = .ok (.iload_n 1, 1) := by decide +kernel
theorem dX12_cheapest_35 : decode cX12_cheapest 35 = .ok (.iload 4, 2) := by decide +kernel
theorem dX12_cheapest_37 : decode cX12_cheapest 37 = .ok (.invokevirtual 432, 3) := by decide +kernel
theorem dX12_cheapest_40 : decode cX12_cheapest 40 = .ok (.istore 5, 2) := by decide +kernel
theorem dX12_cheapest_42 : decode cX12_cheapest 42 = .ok (.iload 5, 2) := by decide +kernel
theorem dX12_cheapest_44 : decode cX12_cheapest 44 = .ok (.ifCond .le 22, 3) := by decide +kernel
theorem dX12_cheapest_47 : decode cX12_cheapest 47 = .ok (.iload_n 2, 1) := by decide +kernel
theorem dX12_cheapest_48 : decode cX12_cheapest 48 = .ok (.ifCond .lt 12, 3) := by decide +kernel
theorem dX12_cheapest_51 : decode cX12_cheapest 51 = .ok (.iload 5, 2) := by decide +kernel
theorem dX12_cheapest_53 : decode cX12_cheapest 53 = .ok (.iload_n 3, 1) := by decide +kernel
theorem dX12_cheapest_54 : decode cX12_cheapest 54 = .ok (.if_icmp .lt 6, 3) := by decide +kernel
theorem dX12_cheapest_57 : decode cX12_cheapest 57 = .ok (.goto 9, 3) := by decide +kernel
theorem dX12_cheapest_60 : decode cX12_cheapest 60 = .ok (.iload 4, 2) := by decide +kernel
theorem dX12_cheapest_62 : decode cX12_cheapest 62 = .ok (.istore_n 2, 1) := by decide +kernel
theorem dX12_cheapest_63 : decode cX12_cheapest 63 = .ok (.iload 5, 2) := by decide +kernel
theorem dX12_cheapest_65 : decode cX12_cheapest 65 = .ok (.istore_n 3, 1) := by decide +kernel
theorem dX12_cheapest_66 : decode cX12_cheapest 66 = .ok (.iinc 4 1, 3) := by decide +kernel
theorem dX12_cheapest_69 : decode cX12_cheapest 69 = .ok (.goto (-47), 3) := by decide +kernel
theorem dX12_cheapest_72 : decode cX12_cheapest 72 = .ok (.iload_n 2, 1) := by decide +kernel
theorem dX12_cheapest_73 : decode cX12_cheapest 73 = .ok (.ireturn, 1) := by decide +kernel
theorem dX12_debt_0 : decode cX12_debt 0 = .ok (.aload_n 0, 1) := by decide +kernel
theorem dX12_debt_1 : decode cX12_debt 1 = .ok (.iconst 0, 1) := by decide +kernel
theorem dX12_debt_2 : decode cX12_debt 2 = .ok (.putfield 129, 3) := by decide +kernel
theorem dX12_debt_5 : decode cX12_debt 5 = .ok (.aload_n 0, 1) := by decide +kernel
theorem dX12_debt_6 : decode cX12_debt 6 = .ok (.iload_n 1, 1) := by decide +kernel
theorem dX12_debt_7 : decode cX12_debt 7 = .ok (.invokevirtual 370, 3) := by decide +kernel
theorem dX12_debt_10 : decode cX12_debt 10 = .ok (.ifCond .eq 20, 3) := by decide +kernel
theorem dX12_debt_13 : decode cX12_debt 13 = .ok (.aload_n 0, 1) := by decide +kernel
theorem dX12_debt_14 : decode cX12_debt 14 = .ok (.iload_n 2, 1) := by decide +kernel
theorem dX12_debt_15 : decode cX12_debt 15 = .ok (.invokevirtual 373, 3) := by decide +kernel
theorem dX12_debt_18 : decode cX12_debt 18 = .ok (.ifCond .eq 12, 3) := by decide +kernel
theorem dX12_debt_21 : decode cX12_debt 21 = .ok (.aload_n 0, 1) := by decide +kernel
theorem dX12_debt_22 : decode cX12_debt 22 = .ok (.iload_n 1, 1) := by decide +kernel
theorem dX12_debt_23 : decode cX12_debt 23 = .ok (.iload_n 2, 1) := by decide +kernel
theorem dX12_debt_24 : decode cX12_debt 24 = .ok (.invokevirtual 432, 3) := by decide +kernel
theorem dX12_debt_27 : decode cX12_debt 27 = .ok (.goto 4, 3) := by decide +kernel
theorem dX12_debt_30 : decode cX12_debt 30 = .ok (.iconst (-1), 1) := by decide +kernel
theorem dX12_debt_31 : decode cX12_debt 31 = .ok (.istore_n 3, 1) := by decide +kernel
theorem dX12_debt_32 : decode cX12_debt 32 = .ok (.iload_n 3, 1) := by decide +kernel
theorem dX12_debt_33 : decode cX12_debt 33 = .ok (.ifCond .ge 7, 3) := by decide +kernel
theorem dX12_debt_36 : decode cX12_debt 36 = .ok (.iconst (-1), 1) := by decide +kernel
theorem dX12_debt_37 : decode cX12_debt 37 = .ok (.goto 25, 3) := by decide +kernel
theorem dX12_debt_40 : decode cX12_debt 40 = .ok (.iconst 0, 1) := by decide +kernel
theorem dX12_debt_41 : decode cX12_debt 41 = .ok (.iload_n 3, 1) := by decide +kernel
theorem dX12_debt_42 : decode cX12_debt 42 = .ok (.aload_n 0, 1) := by decide +kernel
theorem dX12_debt_43 : decode cX12_debt 43 = .ok (.getfield 13, 3) := by decide +kernel
theorem dX12_debt_46 : decode cX12_debt 46 = .ok (.iconst 3, 1) := by decide +kernel
theorem dX12_debt_47 : decode cX12_debt 47 = .ok (.iaload, 1) := by decide +kernel
theorem dX12_debt_48 : decode cX12_debt 48 = .ok (.imul, 1) := by decide +kernel
theorem dX12_debt_49 : decode cX12_debt 49 = .ok (.aload_n 0, 1) := by decide +kernel
theorem dX12_debt_50 : decode cX12_debt 50 = .ok (.getfield 108, 3) := by decide +kernel
theorem dX12_debt_53 : decode cX12_debt 53 = .ok (.bipush 19, 2) := by decide +kernel
theorem dX12_debt_55 : decode cX12_debt 55 = .ok (.iload_n 1, 1) := by decide +kernel
theorem dX12_debt_56 : decode cX12_debt 56 = .ok (.iadd, 1) := by decide +kernel
theorem dX12_debt_57 : decode cX12_debt 57 = .ok (.iaload, 1) := by decide +kernel
theorem dX12_debt_58 : decode cX12_debt 58 = .ok (.isub, 1) := by decide +kernel
theorem dX12_debt_59 : decode cX12_debt 59 = .ok (.invokestatic 404, 3) := by decide +kernel
theorem dX12_debt_62 : decode cX12_debt 62 = .ok (.ireturn, 1) := by decide +kernel
theorem dX12_shaven_0 : decode cX12_shaven 0 = .ok (.aload_n 0, 1) := by decide +kernel
theorem dX12_shaven_1 : decode cX12_shaven 1 = .ok (.iconst 0, 1) := by decide +kernel
theorem dX12_shaven_2 : decode cX12_shaven 2 = .ok (.putfield 129, 3) := by decide +kernel
theorem dX12_shaven_5 : decode cX12_shaven 5 = .ok (.aload_n 0, 1) := by decide +kernel
theorem dX12_shaven_6 : decode cX12_shaven 6 = .ok (.iload_n 1, 1) := by decide +kernel
theorem dX12_shaven_7 : decode cX12_shaven 7 = .ok (.invokevirtual 370, 3) := by decide +kernel
theorem dX12_shaven_10 : decode cX12_shaven 10 = .ok (.ifCond .ne 5, 3) := by decide +kernel
theorem dX12_shaven_13 : decode cX12_shaven 13 = .ok (.iconst (-1), 1) := by decide +kernel
theorem dX12_shaven_14 : decode cX12_shaven 14 = .ok (.ireturn, 1) := by decide +kernel
theorem dX12_shaven_15 : decode cX12_shaven 15 = .ok (.aload_n 0, 1) := by decide +kernel
theorem dX12_shaven_16 : decode cX12_shaven 16 = .ok (.getfield 108, 3) := by decide +kernel
theorem dX12_shaven_19 : decode cX12_shaven 19 = .ok (.iconst 0, 1) := by decide +kernel
theorem dX12_shaven_20 : decode cX12_shaven 20 = .ok (.aload_n 0, 1) := by decide +kernel
theorem dX12_shaven_21 : decode cX12_shaven 21 = .ok (.getfield 114, 3) := by decide +kernel
theorem dX12_shaven_24 : decode cX12_shaven 24 = .ok (.iconst 0, 1) := by decide +kernel
theorem dX12_shaven_25 : decode cX12_shaven 25 = .ok (.invokestatic 379, 3) := by decide +kernel
theorem dX12_shaven_28 : decode cX12_shaven 28 = .ok (.aload_n 0, 1) := by decide +kernel
theorem dX12_shaven_29 : decode cX12_shaven 29 = .ok (.iload_n 1, 1) := by decide +kernel
theorem dX12_shaven_30 : decode cX12_shaven 30 = .ok (.invokevirtual 398, 3) := by decide +kernel
theorem dX12_shaven_33 : decode cX12_shaven 33 = .ok (.aload_n 0, 1) := by decide +kernel
theorem dX12_shaven_34 : decode cX12_shaven 34 = .ok (.iload_n 1, 1) := by decide +kernel
theorem dX12_shaven_35 : decode cX12_shaven 35 = .ok (.iconst 1, 1) := by decide +kernel
theorem dX12_shaven_36 : decode cX12_shaven 36 = .ok (.aload_n 0, 1) := by decide +kernel
theorem dX12_shaven_37 : decode cX12_shaven 37 = .ok (.getfield 108, 3) := by decide +kernel
theorem dX12_shaven_40 : decode cX12_shaven 40 = .ok (.iconst 1, 1) := by decide +kernel
theorem dX12_shaven_41 : decode cX12_shaven 41 = .ok (.iload_n 1, 1) := by decide +kernel
theorem dX12_shaven_42 : decode cX12_shaven 42 = .ok (.iadd, 1) := by decide +kernel
theorem dX12_shaven_43 : decode cX12_shaven 43 = .ok (.iaload, 1) := by decide +kernel
theorem dX12_shaven_44 : decode cX12_shaven 44 = .ok (.ishl, 1) := by decide +kernel
theorem dX12_shaven_45 : decode cX12_shaven 45 = .ok (.invokevirtual 419, 3) := by decide +kernel
theorem dX12_shaven_48 : decode cX12_shaven 48 = .ok (.istore_n 2, 1) := by decide +kernel
theorem dX12_shaven_49 : decode cX12_shaven 49 = .ok (.aload_n 0, 1) := by decide +kernel
theorem dX12_shaven_50 : decode cX12_shaven 50 = .ok (.getfield 114, 3) := by decide +kernel
theorem dX12_shaven_53 : decode cX12_shaven 53 = .ok (.iconst 0, 1) := by decide +kernel
theorem dX12_shaven_54 : decode cX12_shaven 54 = .ok (.aload_n 0, 1) := by decide +kernel
theorem dX12_shaven_55 : decode cX12_shaven 55 = .ok (.getfield 108, 3) := by decide +kernel
theorem dX12_shaven_58 : decode cX12_shaven 58 = .ok (.iconst 0, 1) := by decide +kernel
theorem dX12_shaven_59 : decode cX12_shaven 59 = .ok (.invokestatic 379, 3) := by decide +kernel
theorem dX12_shaven_62 : decode cX12_shaven 62 = .ok (.iload_n 2, 1) := by decide +kernel
theorem dX12_shaven_63 : decode cX12_shaven 63 = .ok (.ireturn, 1) := by decide +kernel
theorem dX12_meetsAt_0 : decode cX12_meetsAt 0 = .ok (.iconst 0, 1) := by decide +kernel
theorem dX12_meetsAt_1 : decode cX12_meetsAt 1 = .ok (.istore_n 2, 1) := by decide +kernel
theorem dX12_meetsAt_2 : decode cX12_meetsAt 2 = .ok (.iconst 0, 1) := by decide +kernel
theorem dX12_meetsAt_3 : decode cX12_meetsAt 3 = .ok (.istore_n 3, 1) := by decide +kernel
theorem dX12_meetsAt_4 : decode cX12_meetsAt 4 = .ok (.iload_n 3, 1) := by decide +kernel
theorem dX12_meetsAt_5 : decode cX12_meetsAt 5 = .ok (.aload_n 0, 1) := by decide +kernel
theorem dX12_meetsAt_6 : decode cX12_meetsAt 6 = .ok (.getfield 13, 3) := by decide +kernel
theorem dX12_meetsAt_9 : decode cX12_meetsAt 9 = .ok (.iconst 1, 1) := by decide +kernel
theorem dX12_meetsAt_10 : decode cX12_meetsAt 10 = .ok (.iaload, 1) := by decide +kernel
theorem dX12_meetsAt_11 : decode cX12_meetsAt 11 = .ok (.if_icmp .ge 31, 3) := by decide +kernel
theorem dX12_meetsAt_14 : decode cX12_meetsAt 14 = .ok (.aload_n 0, 1) := by decide +kernel
theorem dX12_meetsAt_15 : decode cX12_meetsAt 15 = .ok (.iload_n 3, 1) := by decide +kernel
theorem dX12_meetsAt_16 : decode cX12_meetsAt 16 = .ok (.iload_n 1, 1) := by decide +kernel
theorem dX12_meetsAt_17 : decode cX12_meetsAt 17 = .ok (.invokevirtual 426, 3) := by decide +kernel
theorem dX12_meetsAt_20 : decode cX12_meetsAt 20 = .ok (.istore 4, 2) := by decide +kernel
theorem dX12_meetsAt_22 : decode cX12_meetsAt 22 = .ok (.iload 4, 2) := by decide +kernel
theorem dX12_meetsAt_24 : decode cX12_meetsAt 24 = .ok (.ifCond .ge 5, 3) := by decide +kernel
theorem dX12_meetsAt_27 : decode cX12_meetsAt 27 = .ok (.iconst (-1), 1) := by decide +kernel
theorem dX12_meetsAt_28 : decode cX12_meetsAt 28 = .ok (.ireturn, 1) := by decide +kernel
theorem dX12_meetsAt_29 : decode cX12_meetsAt 29 = .ok (.iload_n 2, 1) := by decide +kernel
theorem dX12_meetsAt_30 : decode cX12_meetsAt 30 = .ok (.iload 4, 2) := by decide +kernel
theorem dX12_meetsAt_32 : decode cX12_meetsAt 32 = .ok (.invokestatic 404, 3) := by decide +kernel
theorem dX12_meetsAt_35 : decode cX12_meetsAt 35 = .ok (.istore_n 2, 1) := by decide +kernel
theorem dX12_meetsAt_36 : decode cX12_meetsAt 36 = .ok (.iinc 3 1, 3) := by decide +kernel
theorem dX12_meetsAt_39 : decode cX12_meetsAt 39 = .ok (.goto (-35), 3) := by decide +kernel
theorem dX12_meetsAt_42 : decode cX12_meetsAt 42 = .ok (.iload_n 2, 1) := by decide +kernel
theorem dX12_meetsAt_43 : decode cX12_meetsAt 43 = .ok (.ireturn, 1) := by decide +kernel
theorem dX12_meeting_0 : decode cX12_meeting 0 = .ok (.aload_n 0, 1) := by decide +kernel
theorem dX12_meeting_1 : decode cX12_meeting 1 = .ok (.iconst 0, 1) := by decide +kernel
theorem dX12_meeting_2 : decode cX12_meeting 2 = .ok (.putfield 129, 3) := by decide +kernel
theorem dX12_meeting_5 : decode cX12_meeting 5 = .ok (.iload_n 1, 1) := by decide +kernel
theorem dX12_meeting_6 : decode cX12_meeting 6 = .ok (.iconst 0, 1) := by decide +kernel
theorem dX12_meeting_7 : decode cX12_meeting 7 = .ok (.iconst 1, 1) := by decide +kernel
theorem dX12_meeting_8 : decode cX12_meeting 8 = .ok (.invokestatic 252, 3) := by decide +kernel
theorem dX12_meeting_11 : decode cX12_meeting 11 = .ok (.ifCond .ne 5, 3) := by decide +kernel
theorem dX12_meeting_14 : decode cX12_meeting 14 = .ok (.iconst (-1), 1) := by decide +kernel
theorem dX12_meeting_15 : decode cX12_meeting 15 = .ok (.ireturn, 1) := by decide +kernel
theorem dX12_meeting_16 : decode cX12_meeting 16 = .ok (.iconst (-1), 1) := by decide +kernel
theorem dX12_meeting_17 : decode cX12_meeting 17 = .ok (.istore_n 2, 1) := by decide +kernel
theorem dX12_meeting_18 : decode cX12_meeting 18 = .ok (.iconst (-1), 1) := by decide +kernel
theorem dX12_meeting_19 : decode cX12_meeting 19 = .ok (.istore_n 3, 1) := by decide +kernel
theorem dX12_meeting_20 : decode cX12_meeting 20 = .ok (.iconst 0, 1) := by decide +kernel
theorem dX12_meeting_21 : decode cX12_meeting 21 = .ok (.istore 4, 2) := by decide +kernel
theorem dX12_meeting_23 : decode cX12_meeting 23 = .ok (.iload 4, 2) := by decide +kernel
theorem dX12_meeting_25 : decode cX12_meeting 25 = .ok (.aload_n 0, 1) := by decide +kernel
theorem dX12_meeting_26 : decode cX12_meeting 26 = .ok (.getfield 13, 3) := by decide +kernel
theorem dX12_meeting_29 : decode cX12_meeting 29 = .ok (.iconst 0, 1) := by decide +kernel
theorem dX12_meeting_30 : decode cX12_meeting 30 = .ok (.iaload, 1) := by decide +kernel
theorem dX12_meeting_31 : decode cX12_meeting 31 = .ok (.if_icmp .ge 41, 3) := by decide +kernel
theorem dX12_meeting_34 : decode cX12_meeting 34 = .ok (.aload_n 0, 1) := by decide +kernel
theorem dX12_meeting_35 : decode cX12_meeting 35 = .ok (.iload 4, 2) := by decide +kernel
theorem dX12_meeting_37 : decode cX12_meeting 37 = .ok (.invokevirtual 435, 3) := by decide +kernel
theorem dX12_meeting_40 : decode cX12_meeting 40 = .ok (.istore 5, 2) := by decide +kernel
theorem dX12_meeting_42 : decode cX12_meeting 42 = .ok (.iload 5, 2) := by decide +kernel
theorem dX12_meeting_44 : decode cX12_meeting 44 = .ok (.ifCond .lt 22, 3) := by decide +kernel
theorem dX12_meeting_47 : decode cX12_meeting 47 = .ok (.iload_n 2, 1) := by decide +kernel
theorem dX12_meeting_48 : decode cX12_meeting 48 = .ok (.ifCond .lt 12, 3) := by decide +kernel
theorem dX12_meeting_51 : decode cX12_meeting 51 = .ok (.iload 5, 2) := by decide +kernel
theorem dX12_meeting_53 : decode cX12_meeting 53 = .ok (.iload_n 3, 1) := by decide +kernel
theorem dX12_meeting_54 : decode cX12_meeting 54 = .ok (.if_icmp .lt 6, 3) := by decide +kernel
theorem dX12_meeting_57 : decode cX12_meeting 57 = .ok (.goto 9, 3) := by decide +kernel
theorem dX12_meeting_60 : decode cX12_meeting 60 = .ok (.iload 4, 2) := by decide +kernel
theorem dX12_meeting_62 : decode cX12_meeting 62 = .ok (.istore_n 2, 1) := by decide +kernel
theorem dX12_meeting_63 : decode cX12_meeting 63 = .ok (.iload 5, 2) := by decide +kernel
theorem dX12_meeting_65 : decode cX12_meeting 65 = .ok (.istore_n 3, 1) := by decide +kernel
theorem dX12_meeting_66 : decode cX12_meeting 66 = .ok (.iinc 4 1, 3) := by decide +kernel
theorem dX12_meeting_69 : decode cX12_meeting 69 = .ok (.goto (-46), 3) := by decide +kernel
theorem dX12_meeting_72 : decode cX12_meeting 72 = .ok (.iload_n 1, 1) := by decide +kernel
theorem dX12_meeting_73 : decode cX12_meeting 73 = .ok (.ifCond .ne 7, 3) := by decide +kernel
theorem dX12_meeting_76 : decode cX12_meeting 76 = .ok (.iload_n 3, 1) := by decide +kernel
theorem dX12_meeting_77 : decode cX12_meeting 77 = .ok (.goto 4, 3) := by decide +kernel
theorem dX12_meeting_80 : decode cX12_meeting 80 = .ok (.iload_n 2, 1) := by decide +kernel
theorem dX12_meeting_81 : decode cX12_meeting 81 = .ok (.ireturn, 1) := by decide +kernel
theorem dX12_speakers_0 : decode cX12_speakers 0 = .ok (.aload_n 0, 1) := by decide +kernel
theorem dX12_speakers_1 : decode cX12_speakers 1 = .ok (.iconst 0, 1) := by decide +kernel
theorem dX12_speakers_2 : decode cX12_speakers 2 = .ok (.putfield 129, 3) := by decide +kernel
theorem dX12_speakers_5 : decode cX12_speakers 5 = .ok (.aload_n 0, 1) := by decide +kernel
theorem dX12_speakers_6 : decode cX12_speakers 6 = .ok (.iload_n 1, 1) := by decide +kernel
theorem dX12_speakers_7 : decode cX12_speakers 7 = .ok (.invokevirtual 370, 3) := by decide +kernel
theorem dX12_speakers_10 : decode cX12_speakers 10 = .ok (.ifCond .eq 37, 3) := by decide +kernel
theorem dX12_speakers_13 : decode cX12_speakers 13 = .ok (.aload_n 0, 1) := by decide +kernel
theorem dX12_speakers_14 : decode cX12_speakers 14 = .ok (.iload_n 2, 1) := by decide +kernel
theorem dX12_speakers_15 : decode cX12_speakers 15 = .ok (.invokevirtual 373, 3) := by decide +kernel
theorem dX12_speakers_18 : decode cX12_speakers 18 = .ok (.ifCond .eq 29, 3) := by decide +kernel
theorem dX12_speakers_21 : decode cX12_speakers 21 = .ok (.aload_n 0, 1) := by decide +kernel
theorem dX12_speakers_22 : decode cX12_speakers 22 = .ok (.getfield 29, 3) := by decide +kernel
theorem dX12_speakers_25 : decode cX12_speakers 25 = .ok (.iload_n 1, 1) := by decide +kernel
theorem dX12_speakers_26 : decode cX12_speakers 26 = .ok (.iaload, 1) := by decide +kernel
theorem dX12_speakers_27 : decode cX12_speakers 27 = .ok (.iconst 1, 1) := by decide +kernel
theorem dX12_speakers_28 : decode cX12_speakers 28 = .ok (.if_icmp .ne 19, 3) := by decide +kernel
theorem dX12_speakers_31 : decode cX12_speakers 31 = .ok (.aload_n 0, 1) := by decide +kernel
theorem dX12_speakers_32 : decode cX12_speakers 32 = .ok (.aload_n 0, 1) := by decide +kernel
theorem dX12_speakers_33 : decode cX12_speakers 33 = .ok (.getfield 108, 3) := by decide +kernel
theorem dX12_speakers_36 : decode cX12_speakers 36 = .ok (.iconst 1, 1) := by decide +kernel
theorem dX12_speakers_37 : decode cX12_speakers 37 = .ok (.iload_n 1, 1) := by decide +kernel
theorem dX12_speakers_38 : decode cX12_speakers 38 = .ok (.iadd, 1) := by decide +kernel
theorem dX12_speakers_39 : decode cX12_speakers 39 = .ok (.iaload, 1) := by decide +kernel
theorem dX12_speakers_40 : decode cX12_speakers 40 = .ok (.iload_n 2, 1) := by decide +kernel
theorem dX12_speakers_41 : decode cX12_speakers 41 = .ok (.invokevirtual 358, 3) := by decide +kernel
theorem dX12_speakers_44 : decode cX12_speakers 44 = .ok (.goto 4, 3) := by decide +kernel
theorem dX12_speakers_47 : decode cX12_speakers 47 = .ok (.iconst (-1), 1) := by decide +kernel
theorem dX12_speakers_48 : decode cX12_speakers 48 = .ok (.ireturn, 1) := by decide +kernel
theorem dX12_strict_0 : decode cX12_strict 0 = .ok (.aload_n 0, 1) := by decide +kernel
theorem dX12_strict_1 : decode cX12_strict 1 = .ok (.iconst 0, 1) := by decide +kernel
theorem dX12_strict_2 : decode cX12_strict 2 = .ok (.putfield 129, 3) := by decide +kernel
theorem dX12_strict_5 : decode cX12_strict 5 = .ok (.iconst (-1), 1) := by decide +kernel
theorem dX12_strict_6 : decode cX12_strict 6 = .ok (.istore_n 1, 1) := by decide +kernel
theorem dX12_strict_7 : decode cX12_strict 7 = .ok (.iconst 0, 1) := by decide +kernel
theorem dX12_strict_8 : decode cX12_strict 8 = .ok (.istore_n 2, 1) := by decide +kernel
theorem dX12_strict_9 : decode cX12_strict 9 = .ok (.iload_n 2, 1) := by decide +kernel
theorem dX12_strict_10 : decode cX12_strict 10 = .ok (.aload_n 0, 1) := by decide +kernel
theorem dX12_strict_11 : decode cX12_strict 11 = .ok (.getfield 13, 3) := by decide +kernel
theorem dX12_strict_14 : decode cX12_strict 14 = .ok (.iconst 0, 1) := by decide +kernel
theorem dX12_strict_15 : decode cX12_strict 15 = .ok (.iaload, 1) := by decide +kernel
theorem dX12_strict_16 : decode cX12_strict 16 = .ok (.if_icmp .ge 34, 3) := by decide +kernel
theorem dX12_strict_19 : decode cX12_strict 19 = .ok (.iload_n 1, 1) := by decide +kernel
theorem dX12_strict_20 : decode cX12_strict 20 = .ok (.ifCond .lt 22, 3) := by decide +kernel
theorem dX12_strict_23 : decode cX12_strict 23 = .ok (.aload_n 0, 1) := by decide +kernel
theorem dX12_strict_24 : decode cX12_strict 24 = .ok (.iload_n 2, 1) := by decide +kernel
theorem dX12_strict_25 : decode cX12_strict 25 = .ok (.invokevirtual 376, 3) := by decide +kernel
theorem dX12_strict_28 : decode cX12_strict 28 = .ok (.invokestatic 438, 3) := by decide +kernel
theorem dX12_strict_31 : decode cX12_strict 31 = .ok (.aload_n 0, 1) := by decide +kernel
theorem dX12_strict_32 : decode cX12_strict 32 = .ok (.iload_n 1, 1) := by decide +kernel
theorem dX12_strict_33 : decode cX12_strict 33 = .ok (.invokevirtual 376, 3) := by decide +kernel
theorem dX12_strict_36 : decode cX12_strict 36 = .ok (.invokestatic 438, 3) := by decide +kernel
theorem dX12_strict_39 : decode cX12_strict 39 = .ok (.if_icmp .ge 5, 3) := by decide +kernel
theorem dX12_strict_42 : decode cX12_strict 42 = .ok (.iload_n 2, 1) := by decide +kernel
theorem dX12_strict_43 : decode cX12_strict 43 = .ok (.istore_n 1, 1) := by decide +kernel
theorem dX12_strict_44 : decode cX12_strict 44 = .ok (.iinc 2 1, 3) := by decide +kernel
theorem dX12_strict_47 : decode cX12_strict 47 = .ok (.goto (-38), 3) := by decide +kernel
theorem dX12_strict_50 : decode cX12_strict 50 = .ok (.iload_n 1, 1) := by decide +kernel
theorem dX12_strict_51 : decode cX12_strict 51 = .ok (.ireturn, 1) := by decide +kernel
theorem dX12_alike_0 : decode cX12_alike 0 = .ok (.aload_n 0, 1) := by decide +kernel
theorem dX12_alike_1 : decode cX12_alike 1 = .ok (.iconst 0, 1) := by decide +kernel
theorem dX12_alike_2 : decode cX12_alike 2 = .ok (.putfield 129, 3) := by decide +kernel
theorem dX12_alike_5 : decode cX12_alike 5 = .ok (.iconst 0, 1) := by decide +kernel
theorem dX12_alike_6 : decode cX12_alike 6 = .ok (.istore_n 1, 1) := by decide +kernel
theorem dX12_alike_7 : decode cX12_alike 7 = .ok (.iconst 0, 1) := by decide +kernel
theorem dX12_alike_8 : decode cX12_alike 8 = .ok (.istore_n 2, 1) := by decide +kernel
theorem dX12_alike_9 : decode cX12_alike 9 = .ok (.iload_n 2, 1) := by decide +kernel
theorem dX12_alike_10 : decode cX12_alike 10 = .ok (.aload_n 0, 1) := by decide +kernel
theorem dX12_alike_11 : decode cX12_alike 11 = .ok (.getfield 13, 3) := by decide +kernel
theorem dX12_alike_14 : decode cX12_alike 14 = .ok (.iconst 0, 1) := by decide +kernel
theorem dX12_alike_15 : decode cX12_alike 15 = .ok (.iaload, 1) := by decide +kernel
theorem dX12_alike_16 : decode cX12_alike 16 = .ok (.if_icmp .ge 43, 3) := by decide +kernel
theorem dX12_alike_19 : decode cX12_alike 19 = .ok (.iconst 0, 1) := by decide +kernel
theorem dX12_alike_20 : decode cX12_alike 20 = .ok (.istore_n 3, 1) := by decide +kernel
theorem dX12_alike_21 : decode cX12_alike 21 = .ok (.iload_n 3, 1) := by decide +kernel
theorem dX12_alike_22 : decode cX12_alike 22 = .ok (.iload_n 2, 1) := by decide +kernel
theorem dX12_alike_23 : decode cX12_alike 23 = .ok (.if_icmp .ge 30, 3) := by decide +kernel
theorem dX12_alike_26 : decode cX12_alike 26 = .ok (.iload_n 1, 1) := by decide +kernel
theorem dX12_alike_27 : decode cX12_alike 27 = .ok (.aload_n 0, 1) := by decide +kernel
theorem dX12_alike_28 : decode cX12_alike 28 = .ok (.iload_n 2, 1) := by decide +kernel
theorem dX12_alike_29 : decode cX12_alike 29 = .ok (.invokevirtual 376, 3) := by decide +kernel
theorem dX12_alike_32 : decode cX12_alike 32 = .ok (.aload_n 0, 1) := by decide +kernel
theorem dX12_alike_33 : decode cX12_alike 33 = .ok (.iload_n 3, 1) := by decide +kernel
theorem dX12_alike_34 : decode cX12_alike 34 = .ok (.invokevirtual 376, 3) := by decide +kernel
theorem dX12_alike_37 : decode cX12_alike 37 = .ok (.if_icmp .ne 7, 3) := by decide +kernel
theorem dX12_alike_40 : decode cX12_alike 40 = .ok (.iconst 1, 1) := by decide +kernel
theorem dX12_alike_41 : decode cX12_alike 41 = .ok (.goto 4, 3) := by decide +kernel
theorem dX12_alike_44 : decode cX12_alike 44 = .ok (.iconst 0, 1) := by decide +kernel
theorem dX12_alike_45 : decode cX12_alike 45 = .ok (.iadd, 1) := by decide +kernel
theorem dX12_alike_46 : decode cX12_alike 46 = .ok (.istore_n 1, 1) := by decide +kernel
theorem dX12_alike_47 : decode cX12_alike 47 = .ok (.iinc 3 1, 3) := by decide +kernel
theorem dX12_alike_50 : decode cX12_alike 50 = .ok (.goto (-29), 3) := by decide +kernel
theorem dX12_alike_53 : decode cX12_alike 53 = .ok (.iinc 2 1, 3) := by decide +kernel
theorem dX12_alike_56 : decode cX12_alike 56 = .ok (.goto (-47), 3) := by decide +kernel
theorem dX12_alike_59 : decode cX12_alike 59 = .ok (.iload_n 1, 1) := by decide +kernel
theorem dX12_alike_60 : decode cX12_alike 60 = .ok (.ireturn, 1) := by decide +kernel
theorem dX12_see_0 : decode cX12_see 0 = .ok (.aload_n 0, 1) := by decide +kernel
theorem dX12_see_1 : decode cX12_see 1 = .ok (.iconst 0, 1) := by decide +kernel
theorem dX12_see_2 : decode cX12_see 2 = .ok (.putfield 129, 3) := by decide +kernel
theorem dX12_see_5 : decode cX12_see 5 = .ok (.aload_n 0, 1) := by decide +kernel
theorem dX12_see_6 : decode cX12_see 6 = .ok (.iload_n 1, 1) := by decide +kernel
theorem dX12_see_7 : decode cX12_see 7 = .ok (.invokevirtual 373, 3) := by decide +kernel
theorem dX12_see_10 : decode cX12_see 10 = .ok (.ifCond .eq 14, 3) := by decide +kernel
theorem dX12_see_13 : decode cX12_see 13 = .ok (.aload_n 0, 1) := by decide +kernel
theorem dX12_see_14 : decode cX12_see 14 = .ok (.getfield 99, 3) := by decide +kernel
theorem dX12_see_17 : decode cX12_see 17 = .ok (.iconst 0, 1) := by decide +kernel
theorem dX12_see_18 : decode cX12_see 18 = .ok (.iaload, 1) := by decide +kernel
theorem dX12_see_19 : decode cX12_see 19 = .ok (.bipush 8, 2) := by decide +kernel
theorem dX12_see_21 : decode cX12_see 21 = .ok (.if_icmp .ne 5, 3) := by decide +kernel
theorem dX12_see_24 : decode cX12_see 24 = .ok (.iconst 0, 1) := by decide +kernel
theorem dX12_see_25 : decode cX12_see 25 = .ok (.ireturn, 1) := by decide +kernel
theorem dX12_see_26 : decode cX12_see 26 = .ok (.aload_n 0, 1) := by decide +kernel
theorem dX12_see_27 : decode cX12_see 27 = .ok (.getfield 102, 3) := by decide +kernel
theorem dX12_see_30 : decode cX12_see 30 = .ok (.aload_n 0, 1) := by decide +kernel
theorem dX12_see_31 : decode cX12_see 31 = .ok (.getfield 99, 3) := by decide +kernel
theorem dX12_see_34 : decode cX12_see 34 = .ok (.iconst 0, 1) := by decide +kernel
theorem dX12_see_35 : decode cX12_see 35 = .ok (.iaload, 1) := by decide +kernel
theorem dX12_see_36 : decode cX12_see 36 = .ok (.iload_n 1, 1) := by decide +kernel
theorem dX12_see_37 : decode cX12_see 37 = .ok (.iastore, 1) := by decide +kernel
theorem dX12_see_38 : decode cX12_see 38 = .ok (.aload_n 0, 1) := by decide +kernel
theorem dX12_see_39 : decode cX12_see 39 = .ok (.getfield 105, 3) := by decide +kernel
theorem dX12_see_42 : decode cX12_see 42 = .ok (.aload_n 0, 1) := by decide +kernel
theorem dX12_see_43 : decode cX12_see 43 = .ok (.getfield 99, 3) := by decide +kernel
theorem dX12_see_46 : decode cX12_see 46 = .ok (.iconst 0, 1) := by decide +kernel
theorem dX12_see_47 : decode cX12_see 47 = .ok (.iaload, 1) := by decide +kernel
theorem dX12_see_48 : decode cX12_see 48 = .ok (.iload_n 2, 1) := by decide +kernel
theorem dX12_see_49 : decode cX12_see 49 = .ok (.bastore, 1) := by decide +kernel
theorem dX12_see_50 : decode cX12_see 50 = .ok (.aload_n 0, 1) := by decide +kernel
theorem dX12_see_51 : decode cX12_see 51 = .ok (.getfield 99, 3) := by decide +kernel
theorem dX12_see_54 : decode cX12_see 54 = .ok (.iconst 0, 1) := by decide +kernel
theorem dX12_see_55 : decode cX12_see 55 = .ok (.dup2, 1) := by decide +kernel
theorem dX12_see_56 : decode cX12_see 56 = .ok (.iaload, 1) := by decide +kernel
theorem dX12_see_57 : decode cX12_see 57 = .ok (.iconst 1, 1) := by decide +kernel
theorem dX12_see_58 : decode cX12_see 58 = .ok (.iadd, 1) := by decide +kernel
theorem dX12_see_59 : decode cX12_see 59 = .ok (.iastore, 1) := by decide +kernel
theorem dX12_see_60 : decode cX12_see 60 = .ok (.iconst 1, 1) := by decide +kernel
theorem dX12_see_61 : decode cX12_see 61 = .ok (.ireturn, 1) := by decide +kernel
theorem dX12_isAsSeen_0 : decode cX12_isAsSeen 0 = .ok (.iconst 0, 1) := by decide +kernel
theorem dX12_isAsSeen_1 : decode cX12_isAsSeen 1 = .ok (.istore_n 2, 1) := by decide +kernel
theorem dX12_isAsSeen_2 : decode cX12_isAsSeen 2 = .ok (.iload_n 2, 1) := by decide +kernel
theorem dX12_isAsSeen_3 : decode cX12_isAsSeen 3 = .ok (.aload_n 0, 1) := by decide +kernel
theorem dX12_isAsSeen_4 : decode cX12_isAsSeen 4 = .ok (.getfield 99, 3) := by decide +kernel
theorem dX12_isAsSeen_7 : decode cX12_isAsSeen 7 = .ok (.iconst 0, 1) := by decide +kernel
theorem dX12_isAsSeen_8 : decode cX12_isAsSeen 8 = .ok (.iaload, 1) := by decide +kernel
theorem dX12_isAsSeen_9 : decode cX12_isAsSeen 9 = .ok (.if_icmp .ge 37, 3) := by decide +kernel
theorem dX12_isAsSeen_12 : decode cX12_isAsSeen 12 = .ok (.aload_n 0, 1) := by decide +kernel
theorem dX12_isAsSeen_13 : decode cX12_isAsSeen 13 = .ok (.iload_n 1, 1) := by decide +kernel
theorem dX12_isAsSeen_14 : decode cX12_isAsSeen 14 = .ok (.iconst 0, 1) := by decide +kernel
theorem dX12_isAsSeen_15 : decode cX12_isAsSeen 15 = .ok (.aload_n 0, 1) := by decide +kernel
theorem dX12_isAsSeen_16 : decode cX12_isAsSeen 16 = .ok (.getfield 23, 3) := by decide +kernel
theorem dX12_isAsSeen_19 : decode cX12_isAsSeen 19 = .ok (.aload_n 0, 1) := by decide +kernel
theorem dX12_isAsSeen_20 : decode cX12_isAsSeen 20 = .ok (.getfield 102, 3) := by decide +kernel
theorem dX12_isAsSeen_23 : decode cX12_isAsSeen 23 = .ok (.iload_n 2, 1) := by decide +kernel
theorem dX12_isAsSeen_24 : decode cX12_isAsSeen 24 = .ok (.iaload, 1) := by decide +kernel
theorem dX12_isAsSeen_25 : decode cX12_isAsSeen 25 = .ok (.iaload, 1) := by decide +kernel
theorem dX12_isAsSeen_26 : decode cX12_isAsSeen 26 = .ok (.invokevirtual 352, 3) := by decide +kernel
theorem dX12_isAsSeen_29 : decode cX12_isAsSeen 29 = .ok (.aload_n 0, 1) := by decide +kernel
theorem dX12_isAsSeen_30 : decode cX12_isAsSeen 30 = .ok (.getfield 105, 3) := by decide +kernel
theorem dX12_isAsSeen_33 : decode cX12_isAsSeen 33 = .ok (.iload_n 2, 1) := by decide +kernel
theorem dX12_isAsSeen_34 : decode cX12_isAsSeen 34 = .ok (.baload, 1) := by decide +kernel
theorem dX12_isAsSeen_35 : decode cX12_isAsSeen 35 = .ok (.if_icmp .eq 5, 3) := by decide +kernel
theorem dX12_isAsSeen_38 : decode cX12_isAsSeen 38 = .ok (.iconst 0, 1) := by decide +kernel
theorem dX12_isAsSeen_39 : decode cX12_isAsSeen 39 = .ok (.ireturn, 1) := by decide +kernel
theorem dX12_isAsSeen_40 : decode cX12_isAsSeen 40 = .ok (.iinc 2 1, 3) := by decide +kernel
theorem dX12_isAsSeen_43 : decode cX12_isAsSeen 43 = .ok (.goto (-41), 3) := by decide +kernel
theorem dX12_isAsSeen_46 : decode cX12_isAsSeen 46 = .ok (.iconst 1, 1) := by decide +kernel
theorem dX12_isAsSeen_47 : decode cX12_isAsSeen 47 = .ok (.ireturn, 1) := by decide +kernel
theorem dX12_lengths_0 : decode cX12_lengths 0 = .ok (.aload_n 0, 1) := by decide +kernel
theorem dX12_lengths_1 : decode cX12_lengths 1 = .ok (.iconst 0, 1) := by decide +kernel
theorem dX12_lengths_2 : decode cX12_lengths 2 = .ok (.putfield 129, 3) := by decide +kernel
theorem dX12_lengths_5 : decode cX12_lengths 5 = .ok (.iload_n 1, 1) := by decide +kernel
theorem dX12_lengths_6 : decode cX12_lengths 6 = .ok (.iconst 0, 1) := by decide +kernel
theorem dX12_lengths_7 : decode cX12_lengths 7 = .ok (.iconst 2, 1) := by decide +kernel
theorem dX12_lengths_8 : decode cX12_lengths 8 = .ok (.invokestatic 252, 3) := by decide +kernel
theorem dX12_lengths_11 : decode cX12_lengths 11 = .ok (.ifCond .ne 5, 3) := by decide +kernel
theorem dX12_lengths_14 : decode cX12_lengths 14 = .ok (.iconst (-1), 1) := by decide +kernel
theorem dX12_lengths_15 : decode cX12_lengths 15 = .ok (.ireturn, 1) := by decide +kernel
theorem dX12_lengths_16 : decode cX12_lengths 16 = .ok (.iconst 0, 1) := by decide +kernel
theorem dX12_lengths_17 : decode cX12_lengths 17 = .ok (.istore_n 2, 1) := by decide +kernel
theorem dX12_lengths_18 : decode cX12_lengths 18 = .ok (.iconst (-1), 1) := by decide +kernel
theorem dX12_lengths_19 : decode cX12_lengths 19 = .ok (.istore_n 3, 1) := by decide +kernel
theorem dX12_lengths_20 : decode cX12_lengths 20 = .ok (.iconst (-1), 1) := by decide +kernel
theorem dX12_lengths_21 : decode cX12_lengths 21 = .ok (.istore 4, 2) := by decide +kernel
theorem dX12_lengths_23 : decode cX12_lengths 23 = .ok (.iconst 0, 1) := by decide +kernel
theorem dX12_lengths_24 : decode cX12_lengths 24 = .ok (.istore 5, 2) := by decide +kernel
theorem dX12_lengths_26 : decode cX12_lengths 26 = .ok (.iload 5, 2) := by decide +kernel
theorem dX12_lengths_28 : decode cX12_lengths 28 = .ok (.bipush 31, 2) := by decide +kernel
theorem dX12_lengths_30 : decode cX12_lengths 30 = .ok (.if_icmp .ge 35, 3) := by decide +kernel
theorem dX12_lengths_33 : decode cX12_lengths 33 = .ok (.aload_n 0, 1) := by decide +kernel
theorem dX12_lengths_34 : decode cX12_lengths 34 = .ok (.iload 5, 2) := by decide +kernel
theorem dX12_lengths_36 : decode cX12_lengths 36 = .ok (.invokevirtual 441, 3) := by decide +kernel
theorem dX12_lengths_39 : decode cX12_lengths 39 = .ok (.ifCond .ne 6, 3) := by decide +kernel
theorem dX12_lengths_42 : decode cX12_lengths 42 = .ok (.goto 17, 3) := by decide +kernel
theorem dX12_lengths_45 : decode cX12_lengths 45 = .ok (.iinc 2 1, 3) := by decide +kernel
theorem dX12_lengths_48 : decode cX12_lengths 48 = .ok (.iload_n 3, 1) := by decide +kernel
theorem dX12_lengths_49 : decode cX12_lengths 49 = .ok (.ifCond .ge 6, 3) := by decide +kernel
theorem dX12_lengths_52 : decode cX12_lengths 52 = .ok (.iload 5, 2) := by decide +kernel
theorem dX12_lengths_54 : decode cX12_lengths 54 = .ok (.istore_n 3, 1) := by decide +kernel
theorem dX12_lengths_55 : decode cX12_lengths 55 = .ok (.iload 5, 2) := by decide +kernel
theorem dX12_lengths_57 : decode cX12_lengths 57 = .ok (.istore 4, 2) := by decide +kernel
theorem dX12_lengths_59 : decode cX12_lengths 59 = .ok (.iinc 5 1, 3) := by decide +kernel
theorem dX12_lengths_62 : decode cX12_lengths 62 = .ok (.goto (-36), 3) := by decide +kernel
theorem dX12_lengths_65 : decode cX12_lengths 65 = .ok (.iload_n 1, 1) := by decide +kernel
theorem dX12_lengths_66 : decode cX12_lengths 66 = .ok (.ifCond .ne 7, 3) := by decide +kernel
theorem dX12_lengths_69 : decode cX12_lengths 69 = .ok (.iload_n 2, 1) := by decide +kernel
theorem dX12_lengths_70 : decode cX12_lengths 70 = .ok (.goto 14, 3) := by decide +kernel
theorem dX12_lengths_73 : decode cX12_lengths 73 = .ok (.iload_n 1, 1) := by decide +kernel
theorem dX12_lengths_74 : decode cX12_lengths 74 = .ok (.iconst 1, 1) := by decide +kernel
theorem dX12_lengths_75 : decode cX12_lengths 75 = .ok (.if_icmp .ne 7, 3) := by decide +kernel
theorem dX12_lengths_78 : decode cX12_lengths 78 = .ok (.iload_n 3, 1) := by decide +kernel
theorem dX12_lengths_79 : decode cX12_lengths 79 = .ok (.goto 5, 3) := by decide +kernel
theorem dX12_lengths_82 : decode cX12_lengths 82 = .ok (.iload 4, 2) := by decide +kernel
theorem dX12_lengths_84 : decode cX12_lengths 84 = .ok (.ireturn, 1) := by decide +kernel
theorem dX12_ask_0 : decode cX12_ask 0 = .ok (.aload_n 0, 1) := by decide +kernel
theorem dX12_ask_1 : decode cX12_ask 1 = .ok (.iconst 0, 1) := by decide +kernel
theorem dX12_ask_2 : decode cX12_ask 2 = .ok (.putfield 129, 3) := by decide +kernel
theorem dX12_ask_5 : decode cX12_ask 5 = .ok (.aload_n 0, 1) := by decide +kernel
theorem dX12_ask_6 : decode cX12_ask 6 = .ok (.iconst 0, 1) := by decide +kernel
theorem dX12_ask_7 : decode cX12_ask 7 = .ok (.invokevirtual 444, 3) := by decide +kernel
theorem dX12_ask_10 : decode cX12_ask 10 = .ok (.istore_n 1, 1) := by decide +kernel
theorem dX12_ask_11 : decode cX12_ask 11 = .ok (.iload_n 1, 1) := by decide +kernel
theorem dX12_ask_12 : decode cX12_ask 12 = .ok (.istore_n 2, 1) := by decide +kernel
theorem dX12_ask_13 : decode cX12_ask 13 = .ok (.iconst (-1), 1) := by decide +kernel
theorem dX12_ask_14 : decode cX12_ask 14 = .ok (.istore_n 3, 1) := by decide +kernel
theorem dX12_ask_15 : decode cX12_ask 15 = .ok (.iconst 0, 1) := by decide +kernel
