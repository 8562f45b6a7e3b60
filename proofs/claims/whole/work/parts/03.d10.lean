theorem dX10_nextWanted_14 : decode cX10_nextWanted 14 = .ok (.iload_n 3, 1) := by decide +kernel
theorem dX10_nextWanted_15 : decode cX10_nextWanted 15 = .ok (.iload_n 2, 1) := by decide +kernel
theorem dX10_nextWanted_16 : decode cX10_nextWanted 16 = .ok (.invokevirtual 213, 3) := by decide +kernel
theorem dX10_nextWanted_19 : decode cX10_nextWanted 19 = .ok (.aload_n 0, 1) := by decide +kernel
theorem dX10_nextWanted_20 : decode cX10_nextWanted 20 = .ok (.getfield 207, 3) := by decide +kernel
theorem dX10_nextWanted_23 : decode cX10_nextWanted 23 = .ok (.aload_n 0, 1) := by decide +kernel
theorem dX10_nextWanted_24 : decode cX10_nextWanted 24 = .ok (.getfield 204, 3) := by decide +kernel
theorem dX10_nextWanted_27 : decode cX10_nextWanted 27 = .ok (.if_icmp .le 77, 3) := by decide +kernel
theorem dX10_nextWanted_30 : decode cX10_nextWanted 30 = .ok (.aload_n 0, 1) := by decide +kernel
theorem dX10_nextWanted_31 : decode cX10_nextWanted 31 = .ok (.getfield 204, 3) := by decide +kernel
theorem dX10_nextWanted_34 : decode cX10_nextWanted 34 = .ok (.aload_n 0, 1) := by decide +kernel
theorem dX10_nextWanted_35 : decode cX10_nextWanted 35 = .ok (.getfield 7, 3) := by decide +kernel
theorem dX10_nextWanted_38 : decode cX10_nextWanted 38 = .ok (.if_icmp .ge 66, 3) := by decide +kernel
theorem dX10_nextWanted_41 : decode cX10_nextWanted 41 = .ok (.aload_n 0, 1) := by decide +kernel
theorem dX10_nextWanted_42 : decode cX10_nextWanted 42 = .ok (.getfield 207, 3) := by decide +kernel
theorem dX10_nextWanted_45 : decode cX10_nextWanted 45 = .ok (.aload_n 0, 1) := by decide +kernel
theorem dX10_nextWanted_46 : decode cX10_nextWanted 46 = .ok (.getfield 7, 3) := by decide +kernel
theorem dX10_nextWanted_49 : decode cX10_nextWanted 49 = .ok (.if_icmp .ge 55, 3) := by decide +kernel
theorem dX10_nextWanted_52 : decode cX10_nextWanted 52 = .ok (.iload_n 2, 1) := by decide +kernel
theorem dX10_nextWanted_53 : decode cX10_nextWanted 53 = .ok (.iconst 2, 1) := by decide +kernel
theorem dX10_nextWanted_54 : decode cX10_nextWanted 54 = .ok (.if_icmp .ne 13, 3) := by decide +kernel
theorem dX10_nextWanted_57 : decode cX10_nextWanted 57 = .ok (.iload_n 3, 1) := by decide +kernel
theorem dX10_nextWanted_58 : decode cX10_nextWanted 58 = .ok (.bipush 8, 2) := by decide +kernel
theorem dX10_nextWanted_60 : decode cX10_nextWanted 60 = .ok (.irem, 1) := by decide +kernel
theorem dX10_nextWanted_61 : decode cX10_nextWanted 61 = .ok (.ifCond .ne 43, 3) := by decide +kernel
theorem dX10_nextWanted_64 : decode cX10_nextWanted 64 = .ok (.goto 36, 3) := by decide +kernel
theorem dX10_nextWanted_67 : decode cX10_nextWanted 67 = .ok (.aload_n 0, 1) := by decide +kernel
theorem dX10_nextWanted_68 : decode cX10_nextWanted 68 = .ok (.getfield 210, 3) := by decide +kernel
theorem dX10_nextWanted_71 : decode cX10_nextWanted 71 = .ok (.aload_n 0, 1) := by decide +kernel
theorem dX10_nextWanted_72 : decode cX10_nextWanted 72 = .ok (.getfield 204, 3) := by decide +kernel
theorem dX10_nextWanted_75 : decode cX10_nextWanted 75 = .ok (.if_icmp .le 29, 3) := by decide +kernel
theorem dX10_nextWanted_78 : decode cX10_nextWanted 78 = .ok (.aload_n 0, 1) := by decide +kernel
theorem dX10_nextWanted_79 : decode cX10_nextWanted 79 = .ok (.getfield 210, 3) := by decide +kernel
theorem dX10_nextWanted_82 : decode cX10_nextWanted 82 = .ok (.aload_n 0, 1) := by decide +kernel
theorem dX10_nextWanted_83 : decode cX10_nextWanted 83 = .ok (.getfield 207, 3) := by decide +kernel
theorem dX10_nextWanted_86 : decode cX10_nextWanted 86 = .ok (.if_icmp .eq 18, 3) := by decide +kernel
theorem dX10_nextWanted_89 : decode cX10_nextWanted 89 = .ok (.aload_n 0, 1) := by decide +kernel
theorem dX10_nextWanted_90 : decode cX10_nextWanted 90 = .ok (.getfield 210, 3) := by decide +kernel
theorem dX10_nextWanted_93 : decode cX10_nextWanted 93 = .ok (.aload_n 0, 1) := by decide +kernel
theorem dX10_nextWanted_94 : decode cX10_nextWanted 94 = .ok (.getfield 7, 3) := by decide +kernel
theorem dX10_nextWanted_97 : decode cX10_nextWanted 97 = .ok (.if_icmp .ge 7, 3) := by decide +kernel
theorem dX10_nextWanted_100 : decode cX10_nextWanted 100 = .ok (.iconst 1, 1) := by decide +kernel
theorem dX10_nextWanted_101 : decode cX10_nextWanted 101 = .ok (.goto 4, 3) := by decide +kernel
theorem dX10_nextWanted_104 : decode cX10_nextWanted 104 = .ok (.iconst 0, 1) := by decide +kernel
theorem dX10_nextWanted_105 : decode cX10_nextWanted 105 = .ok (.istore 4, 2) := by decide +kernel
theorem dX10_nextWanted_107 : decode cX10_nextWanted 107 = .ok (.iload 4, 2) := by decide +kernel
theorem dX10_nextWanted_109 : decode cX10_nextWanted 109 = .ok (.ifCond .eq 24, 3) := by decide +kernel
theorem dX10_nextWanted_112 : decode cX10_nextWanted 112 = .ok (.aload_n 0, 1) := by decide +kernel
theorem dX10_nextWanted_113 : decode cX10_nextWanted 113 = .ok (.aload_n 0, 1) := by decide +kernel
theorem dX10_nextWanted_114 : decode cX10_nextWanted 114 = .ok (.getfield 204, 3) := by decide +kernel
theorem dX10_nextWanted_117 : decode cX10_nextWanted 117 = .ok (.aload_n 0, 1) := by decide +kernel
theorem dX10_nextWanted_118 : decode cX10_nextWanted 118 = .ok (.getfield 207, 3) := by decide +kernel
theorem dX10_nextWanted_121 : decode cX10_nextWanted 121 = .ok (.aload_n 0, 1) := by decide +kernel
theorem dX10_nextWanted_122 : decode cX10_nextWanted 122 = .ok (.getfield 210, 3) := by decide +kernel
theorem dX10_nextWanted_125 : decode cX10_nextWanted 125 = .ok (.invokevirtual 193, 3) := by decide +kernel
theorem dX10_nextWanted_128 : decode cX10_nextWanted 128 = .ok (.ifCond .eq 5, 3) := by decide +kernel
theorem dX10_nextWanted_131 : decode cX10_nextWanted 131 = .ok (.iload_n 3, 1) := by decide +kernel
theorem dX10_nextWanted_132 : decode cX10_nextWanted 132 = .ok (.ireturn, 1) := by decide +kernel
theorem dX10_nextWanted_133 : decode cX10_nextWanted 133 = .ok (.iinc 3 1, 3) := by decide +kernel
theorem dX10_nextWanted_136 : decode cX10_nextWanted 136 = .ok (.goto (-134), 3) := by decide +kernel
theorem dX10_nextWanted_139 : decode cX10_nextWanted 139 = .ok (.iconst (-1), 1) := by decide +kernel
theorem dX10_nextWanted_140 : decode cX10_nextWanted 140 = .ok (.ireturn, 1) := by decide +kernel
theorem dX10_settleBy_0 : decode cX10_settleBy 0 = .ok (.iconst 0, 1) := by decide +kernel
theorem dX10_settleBy_1 : decode cX10_settleBy 1 = .ok (.istore_n 2, 1) := by decide +kernel
theorem dX10_settleBy_2 : decode cX10_settleBy 2 = .ok (.aload_n 0, 1) := by decide +kernel
theorem dX10_settleBy_3 : decode cX10_settleBy 3 = .ok (.iconst 0, 1) := by decide +kernel
theorem dX10_settleBy_4 : decode cX10_settleBy 4 = .ok (.iload_n 1, 1) := by decide +kernel
theorem dX10_settleBy_5 : decode cX10_settleBy 5 = .ok (.invokevirtual 217, 3) := by decide +kernel
theorem dX10_settleBy_8 : decode cX10_settleBy 8 = .ok (.istore_n 3, 1) := by decide +kernel
theorem dX10_settleBy_9 : decode cX10_settleBy 9 = .ok (.iload_n 3, 1) := by decide +kernel
theorem dX10_settleBy_10 : decode cX10_settleBy 10 = .ok (.iconst (-1), 1) := by decide +kernel
theorem dX10_settleBy_11 : decode cX10_settleBy 11 = .ok (.if_icmp .eq 32, 3) := by decide +kernel
theorem dX10_settleBy_14 : decode cX10_settleBy 14 = .ok (.aload_n 0, 1) := by decide +kernel
theorem dX10_settleBy_15 : decode cX10_settleBy 15 = .ok (.aload_n 0, 1) := by decide +kernel
theorem dX10_settleBy_16 : decode cX10_settleBy 16 = .ok (.getfield 204, 3) := by decide +kernel
theorem dX10_settleBy_19 : decode cX10_settleBy 19 = .ok (.aload_n 0, 1) := by decide +kernel
theorem dX10_settleBy_20 : decode cX10_settleBy 20 = .ok (.getfield 207, 3) := by decide +kernel
theorem dX10_settleBy_23 : decode cX10_settleBy 23 = .ok (.aload_n 0, 1) := by decide +kernel
theorem dX10_settleBy_24 : decode cX10_settleBy 24 = .ok (.getfield 210, 3) := by decide +kernel
theorem dX10_settleBy_27 : decode cX10_settleBy 27 = .ok (.invokevirtual 196, 3) := by decide +kernel
theorem dX10_settleBy_30 : decode cX10_settleBy 30 = .ok (.iinc 2 1, 3) := by decide +kernel
theorem dX10_settleBy_33 : decode cX10_settleBy 33 = .ok (.aload_n 0, 1) := by decide +kernel
theorem dX10_settleBy_34 : decode cX10_settleBy 34 = .ok (.iconst 0, 1) := by decide +kernel
theorem dX10_settleBy_35 : decode cX10_settleBy 35 = .ok (.iload_n 1, 1) := by decide +kernel
theorem dX10_settleBy_36 : decode cX10_settleBy 36 = .ok (.invokevirtual 217, 3) := by decide +kernel
theorem dX10_settleBy_39 : decode cX10_settleBy 39 = .ok (.istore_n 3, 1) := by decide +kernel
theorem dX10_settleBy_40 : decode cX10_settleBy 40 = .ok (.goto (-31), 3) := by decide +kernel
theorem dX10_settleBy_43 : decode cX10_settleBy 43 = .ok (.iload_n 2, 1) := by decide +kernel
theorem dX10_settleBy_44 : decode cX10_settleBy 44 = .ok (.ireturn, 1) := by decide +kernel
theorem dX10_settle_0 : decode cX10_settle 0 = .ok (.aload_n 0, 1) := by decide +kernel
theorem dX10_settle_1 : decode cX10_settle 1 = .ok (.getfield 35, 3) := by decide +kernel
theorem dX10_settle_4 : decode cX10_settle 4 = .ok (.iconst 0, 1) := by decide +kernel
theorem dX10_settle_5 : decode cX10_settle 5 = .ok (.iaload, 1) := by decide +kernel
theorem dX10_settle_6 : decode cX10_settle 6 = .ok (.ifCond .ne 6, 3) := by decide +kernel
theorem dX10_settle_9 : decode cX10_settle 9 = .ok (.bipush (-4), 2) := by decide +kernel
theorem dX10_settle_11 : decode cX10_settle 11 = .ok (.ireturn, 1) := by decide +kernel
theorem dX10_settle_12 : decode cX10_settle 12 = .ok (.aload_n 0, 1) := by decide +kernel
theorem dX10_settle_13 : decode cX10_settle 13 = .ok (.invokevirtual 190, 3) := by decide +kernel
theorem dX10_settle_16 : decode cX10_settle 16 = .ok (.aload_n 0, 1) := by decide +kernel
theorem dX10_settle_17 : decode cX10_settle 17 = .ok (.aload_n 0, 1) := by decide +kernel
theorem dX10_settle_18 : decode cX10_settle 18 = .ok (.getfield 13, 3) := by decide +kernel
theorem dX10_settle_21 : decode cX10_settle 21 = .ok (.invokevirtual 221, 3) := by decide +kernel
theorem dX10_settle_24 : decode cX10_settle 24 = .ok (.istore_n 1, 1) := by decide +kernel
theorem dX10_settle_25 : decode cX10_settle 25 = .ok (.aload_n 0, 1) := by decide +kernel
theorem dX10_settle_26 : decode cX10_settle 26 = .ok (.invokevirtual 183, 3) := by decide +kernel
theorem dX10_settle_29 : decode cX10_settle 29 = .ok (.iload_n 1, 1) := by decide +kernel
theorem dX10_settle_30 : decode cX10_settle 30 = .ok (.ireturn, 1) := by decide +kernel
theorem dX10_dawn_0 : decode cX10_dawn 0 = .ok (.aload_n 0, 1) := by decide +kernel
theorem dX10_dawn_1 : decode cX10_dawn 1 = .ok (.getfield 35, 3) := by decide +kernel
theorem dX10_dawn_4 : decode cX10_dawn 4 = .ok (.iconst 0, 1) := by decide +kernel
theorem dX10_dawn_5 : decode cX10_dawn 5 = .ok (.iaload, 1) := by decide +kernel
theorem dX10_dawn_6 : decode cX10_dawn 6 = .ok (.ifCond .ne 6, 3) := by decide +kernel
theorem dX10_dawn_9 : decode cX10_dawn 9 = .ok (.bipush (-4), 2) := by decide +kernel
theorem dX10_dawn_11 : decode cX10_dawn 11 = .ok (.ireturn, 1) := by decide +kernel
theorem dX10_dawn_12 : decode cX10_dawn 12 = .ok (.aload_n 0, 1) := by decide +kernel
theorem dX10_dawn_13 : decode cX10_dawn 13 = .ok (.getfield 35, 3) := by decide +kernel
theorem dX10_dawn_16 : decode cX10_dawn 16 = .ok (.bipush 15, 2) := by decide +kernel
theorem dX10_dawn_18 : decode cX10_dawn 18 = .ok (.iaload, 1) := by decide +kernel
theorem dX10_dawn_19 : decode cX10_dawn 19 = .ok (.bipush 16, 2) := by decide +kernel
theorem dX10_dawn_21 : decode cX10_dawn 21 = .ok (.if_icmp .ne 6, 3) := by decide +kernel
theorem dX10_dawn_24 : decode cX10_dawn 24 = .ok (.bipush (-5), 2) := by decide +kernel
theorem dX10_dawn_26 : decode cX10_dawn 26 = .ok (.ireturn, 1) := by decide +kernel
theorem dX10_dawn_27 : decode cX10_dawn 27 = .ok (.iconst 0, 1) := by decide +kernel
theorem dX10_dawn_28 : decode cX10_dawn 28 = .ok (.istore_n 1, 1) := by decide +kernel
theorem dX10_dawn_29 : decode cX10_dawn 29 = .ok (.iload_n 1, 1) := by decide +kernel
theorem dX10_dawn_30 : decode cX10_dawn 30 = .ok (.aload_n 0, 1) := by decide +kernel
theorem dX10_dawn_31 : decode cX10_dawn 31 = .ok (.getfield 7, 3) := by decide +kernel
theorem dX10_dawn_34 : decode cX10_dawn 34 = .ok (.if_icmp .ge 63, 3) := by decide +kernel
theorem dX10_dawn_37 : decode cX10_dawn 37 = .ok (.aload_n 0, 1) := by decide +kernel
theorem dX10_dawn_38 : decode cX10_dawn 38 = .ok (.getfield 35, 3) := by decide +kernel
theorem dX10_dawn_41 : decode cX10_dawn 41 = .ok (.bipush 8, 2) := by decide +kernel
theorem dX10_dawn_43 : decode cX10_dawn 43 = .ok (.iload_n 1, 1) := by decide +kernel
theorem dX10_dawn_44 : decode cX10_dawn 44 = .ok (.iadd, 1) := by decide +kernel
theorem dX10_dawn_45 : decode cX10_dawn 45 = .ok (.aload_n 0, 1) := by decide +kernel
theorem dX10_dawn_46 : decode cX10_dawn 46 = .ok (.getfield 35, 3) := by decide +kernel
theorem dX10_dawn_49 : decode cX10_dawn 49 = .ok (.iconst 1, 1) := by decide +kernel
theorem dX10_dawn_50 : decode cX10_dawn 50 = .ok (.iload_n 1, 1) := by decide +kernel
theorem dX10_dawn_51 : decode cX10_dawn 51 = .ok (.iadd, 1) := by decide +kernel
theorem dX10_dawn_52 : decode cX10_dawn 52 = .ok (.iaload, 1) := by decide +kernel
theorem dX10_dawn_53 : decode cX10_dawn 53 = .ok (.iastore, 1) := by decide +kernel
theorem dX10_dawn_54 : decode cX10_dawn 54 = .ok (.aload_n 0, 1) := by decide +kernel
theorem dX10_dawn_55 : decode cX10_dawn 55 = .ok (.getfield 35, 3) := by decide +kernel
theorem dX10_dawn_58 : decode cX10_dawn 58 = .ok (.bipush 16, 2) := by decide +kernel
theorem dX10_dawn_60 : decode cX10_dawn 60 = .ok (.bipush 7, 2) := by decide +kernel
theorem dX10_dawn_62 : decode cX10_dawn 62 = .ok (.aload_n 0, 1) := by decide +kernel
theorem dX10_dawn_63 : decode cX10_dawn 63 = .ok (.getfield 35, 3) := by decide +kernel
theorem dX10_dawn_66 : decode cX10_dawn 66 = .ok (.bipush 15, 2) := by decide +kernel
theorem dX10_dawn_68 : decode cX10_dawn 68 = .ok (.iaload, 1) := by decide +kernel
theorem dX10_dawn_69 : decode cX10_dawn 69 = .ok (.imul, 1) := by decide +kernel
theorem dX10_dawn_70 : decode cX10_dawn 70 = .ok (.iadd, 1) := by decide +kernel
theorem dX10_dawn_71 : decode cX10_dawn 71 = .ok (.iload_n 1, 1) := by decide +kernel
theorem dX10_dawn_72 : decode cX10_dawn 72 = .ok (.iadd, 1) := by decide +kernel
theorem dX10_dawn_73 : decode cX10_dawn 73 = .ok (.aload_n 0, 1) := by decide +kernel
theorem dX10_dawn_74 : decode cX10_dawn 74 = .ok (.getfield 35, 3) := by decide +kernel
theorem dX10_dawn_77 : decode cX10_dawn 77 = .ok (.iconst 1, 1) := by decide +kernel
theorem dX10_dawn_78 : decode cX10_dawn 78 = .ok (.iload_n 1, 1) := by decide +kernel
theorem dX10_dawn_79 : decode cX10_dawn 79 = .ok (.iadd, 1) := by decide +kernel
theorem dX10_dawn_80 : decode cX10_dawn 80 = .ok (.iaload, 1) := by decide +kernel
theorem dX10_dawn_81 : decode cX10_dawn 81 = .ok (.iastore, 1) := by decide +kernel
theorem dX10_dawn_82 : decode cX10_dawn 82 = .ok (.aload_n 0, 1) := by decide +kernel
theorem dX10_dawn_83 : decode cX10_dawn 83 = .ok (.getfield 35, 3) := by decide +kernel
theorem dX10_dawn_86 : decode cX10_dawn 86 = .ok (.iconst 1, 1) := by decide +kernel
theorem dX10_dawn_87 : decode cX10_dawn 87 = .ok (.iload_n 1, 1) := by decide +kernel
theorem dX10_dawn_88 : decode cX10_dawn 88 = .ok (.iadd, 1) := by decide +kernel
theorem dX10_dawn_89 : decode cX10_dawn 89 = .ok (.iconst 0, 1) := by decide +kernel
theorem dX10_dawn_90 : decode cX10_dawn 90 = .ok (.iastore, 1) := by decide +kernel
theorem dX10_dawn_91 : decode cX10_dawn 91 = .ok (.iinc 1 1, 3) := by decide +kernel
theorem dX10_dawn_94 : decode cX10_dawn 94 = .ok (.goto (-65), 3) := by decide +kernel
theorem dX10_dawn_97 : decode cX10_dawn 97 = .ok (.aload_n 0, 1) := by decide +kernel
theorem dX10_dawn_98 : decode cX10_dawn 98 = .ok (.getfield 35, 3) := by decide +kernel
theorem dX10_dawn_101 : decode cX10_dawn 101 = .ok (.iconst 0, 1) := by decide +kernel
theorem dX10_dawn_102 : decode cX10_dawn 102 = .ok (.iconst 0, 1) := by decide +kernel
theorem dX10_dawn_103 : decode cX10_dawn 103 = .ok (.iastore, 1) := by decide +kernel
theorem dX10_dawn_104 : decode cX10_dawn 104 = .ok (.aload_n 0, 1) := by decide +kernel
theorem dX10_dawn_105 : decode cX10_dawn 105 = .ok (.getfield 35, 3) := by decide +kernel
theorem dX10_dawn_108 : decode cX10_dawn 108 = .ok (.bipush 15, 2) := by decide +kernel
theorem dX10_dawn_110 : decode cX10_dawn 110 = .ok (.dup2, 1) := by decide +kernel
theorem dX10_dawn_111 : decode cX10_dawn 111 = .ok (.iaload, 1) := by decide +kernel
theorem dX10_dawn_112 : decode cX10_dawn 112 = .ok (.iconst 1, 1) := by decide +kernel
theorem dX10_dawn_113 : decode cX10_dawn 113 = .ok (.iadd, 1) := by decide +kernel
theorem dX10_dawn_114 : decode cX10_dawn 114 = .ok (.iastore, 1) := by decide +kernel
theorem dX10_dawn_115 : decode cX10_dawn 115 = .ok (.aload_n 0, 1) := by decide +kernel
theorem dX10_dawn_116 : decode cX10_dawn 116 = .ok (.getfield 35, 3) := by decide +kernel
theorem dX10_dawn_119 : decode cX10_dawn 119 = .ok (.bipush 15, 2) := by decide +kernel
theorem dX10_dawn_121 : decode cX10_dawn 121 = .ok (.iaload, 1) := by decide +kernel
theorem dX10_dawn_122 : decode cX10_dawn 122 = .ok (.ireturn, 1) := by decide +kernel
theorem dX10_today_0 : decode cX10_today 0 = .ok (.iload_n 1, 1) := by decide +kernel
theorem dX10_today_1 : decode cX10_today 1 = .ok (.iconst 0, 1) := by decide +kernel
theorem dX10_today_2 : decode cX10_today 2 = .ok (.iconst 2, 1) := by decide +kernel
theorem dX10_today_3 : decode cX10_today 3 = .ok (.invokestatic 69, 3) := by decide +kernel
theorem dX10_today_6 : decode cX10_today 6 = .ok (.ifCond .ne 6, 3) := by decide +kernel
theorem dX10_today_9 : decode cX10_today 9 = .ok (.bipush (-3), 2) := by decide +kernel
theorem dX10_today_11 : decode cX10_today 11 = .ok (.ireturn, 1) := by decide +kernel
theorem dX10_today_12 : decode cX10_today 12 = .ok (.aload_n 0, 1) := by decide +kernel
theorem dX10_today_13 : decode cX10_today 13 = .ok (.getfield 35, 3) := by decide +kernel
theorem dX10_today_16 : decode cX10_today 16 = .ok (.iconst 0, 1) := by decide +kernel
theorem dX10_today_17 : decode cX10_today 17 = .ok (.iaload, 1) := by decide +kernel
theorem dX10_today_18 : decode cX10_today 18 = .ok (.ifCond .ne 6, 3) := by decide +kernel
theorem dX10_today_21 : decode cX10_today 21 = .ok (.bipush (-4), 2) := by decide +kernel
theorem dX10_today_23 : decode cX10_today 23 = .ok (.ireturn, 1) := by decide +kernel
theorem dX10_today_24 : decode cX10_today 24 = .ok (.aload_n 0, 1) := by decide +kernel
theorem dX10_today_25 : decode cX10_today 25 = .ok (.invokevirtual 190, 3) := by decide +kernel
theorem dX10_today_28 : decode cX10_today 28 = .ok (.iload_n 1, 1) := by decide +kernel
theorem dX10_today_29 : decode cX10_today 29 = .ok (.ifCond .ne 10, 3) := by decide +kernel
theorem dX10_today_32 : decode cX10_today 32 = .ok (.aload_n 0, 1) := by decide +kernel
theorem dX10_today_33 : decode cX10_today 33 = .ok (.invokevirtual 224, 3) := by decide +kernel
theorem dX10_today_36 : decode cX10_today 36 = .ok (.goto 19, 3) := by decide +kernel
theorem dX10_today_39 : decode cX10_today 39 = .ok (.iload_n 1, 1) := by decide +kernel
theorem dX10_today_40 : decode cX10_today 40 = .ok (.iconst 1, 1) := by decide +kernel
theorem dX10_today_41 : decode cX10_today 41 = .ok (.if_icmp .ne 10, 3) := by decide +kernel
theorem dX10_today_44 : decode cX10_today 44 = .ok (.aload_n 0, 1) := by decide +kernel
theorem dX10_today_45 : decode cX10_today 45 = .ok (.invokevirtual 227, 3) := by decide +kernel
theorem dX10_today_48 : decode cX10_today 48 = .ok (.goto 7, 3) := by decide +kernel
theorem dX10_today_51 : decode cX10_today 51 = .ok (.aload_n 0, 1) := by decide +kernel
theorem dX10_today_52 : decode cX10_today 52 = .ok (.invokevirtual 200, 3) := by decide +kernel
theorem dX10_today_55 : decode cX10_today 55 = .ok (.ireturn, 1) := by decide +kernel
theorem dX10_ends_0 : decode cX10_ends 0 = .ok (.iload_n 1, 1) := by decide +kernel
theorem dX10_ends_1 : decode cX10_ends 1 = .ok (.iconst 0, 1) := by decide +kernel
theorem dX10_ends_2 : decode cX10_ends 2 = .ok (.iconst 2, 1) := by decide +kernel
theorem dX10_ends_3 : decode cX10_ends 3 = .ok (.invokestatic 69, 3) := by decide +kernel
theorem dX10_ends_6 : decode cX10_ends 6 = .ok (.ifCond .ne 6, 3) := by decide +kernel
theorem dX10_ends_9 : decode cX10_ends 9 = .ok (.bipush (-3), 2) := by decide +kernel
theorem dX10_ends_11 : decode cX10_ends 11 = .ok (.ireturn, 1) := by decide +kernel
theorem dX10_ends_12 : decode cX10_ends 12 = .ok (.aload_n 0, 1) := by decide +kernel
theorem dX10_ends_13 : decode cX10_ends 13 = .ok (.getfield 35, 3) := by decide +kernel
theorem dX10_ends_16 : decode cX10_ends 16 = .ok (.iconst 0, 1) := by decide +kernel
theorem dX10_ends_17 : decode cX10_ends 17 = .ok (.iaload, 1) := by decide +kernel
theorem dX10_ends_18 : decode cX10_ends 18 = .ok (.ifCond .ne 6, 3) := by decide +kernel
theorem dX10_ends_21 : decode cX10_ends 21 = .ok (.bipush (-4), 2) := by decide +kernel
theorem dX10_ends_23 : decode cX10_ends 23 = .ok (.ireturn, 1) := by decide +kernel
theorem dX10_ends_24 : decode cX10_ends 24 = .ok (.iconst 0, 1) := by decide +kernel
theorem dX10_ends_25 : decode cX10_ends 25 = .ok (.istore_n 2, 1) := by decide +kernel
theorem dX10_ends_26 : decode cX10_ends 26 = .ok (.iload_n 2, 1) := by decide +kernel
theorem dX10_ends_27 : decode cX10_ends 27 = .ok (.sipush 5040, 3) := by decide +kernel
theorem dX10_ends_30 : decode cX10_ends 30 = .ok (.if_icmp .ge 16, 3) := by decide +kernel
theorem dX10_ends_33 : decode cX10_ends 33 = .ok (.aload_n 0, 1) := by decide +kernel
theorem dX10_ends_34 : decode cX10_ends 34 = .ok (.getfield 51, 3) := by decide +kernel
theorem dX10_ends_37 : decode cX10_ends 37 = .ok (.iload_n 2, 1) := by decide +kernel
theorem dX10_ends_38 : decode cX10_ends 38 = .ok (.iconst 0, 1) := by decide +kernel
theorem dX10_ends_39 : decode cX10_ends 39 = .ok (.bastore, 1) := by decide +kernel
theorem dX10_ends_40 : decode cX10_ends 40 = .ok (.iinc 2 1, 3) := by decide +kernel
theorem dX10_ends_43 : decode cX10_ends 43 = .ok (.goto (-17), 3) := by decide +kernel
theorem dX10_ends_46 : decode cX10_ends 46 = .ok (.aload_n 0, 1) := by decide +kernel
theorem dX10_ends_47 : decode cX10_ends 47 = .ok (.invokevirtual 190, 3) := by decide +kernel
theorem dX10_ends_50 : decode cX10_ends 50 = .ok (.aload_n 0, 1) := by decide +kernel
theorem dX10_ends_51 : decode cX10_ends 51 = .ok (.getfield 54, 3) := by decide +kernel
theorem dX10_ends_54 : decode cX10_ends 54 = .ok (.iconst 0, 1) := by decide +kernel
theorem dX10_ends_55 : decode cX10_ends 55 = .ok (.aload_n 0, 1) := by decide +kernel
theorem dX10_ends_56 : decode cX10_ends 56 = .ok (.invokevirtual 224, 3) := by decide +kernel
theorem dX10_ends_59 : decode cX10_ends 59 = .ok (.iastore, 1) := by decide +kernel
theorem dX10_ends_60 : decode cX10_ends 60 = .ok (.aload_n 0, 1) := by decide +kernel
theorem dX10_ends_61 : decode cX10_ends 61 = .ok (.getfield 51, 3) := by decide +kernel
theorem dX10_ends_64 : decode cX10_ends 64 = .ok (.aload_n 0, 1) := by decide +kernel
theorem dX10_ends_65 : decode cX10_ends 65 = .ok (.getfield 54, 3) := by decide +kernel
theorem dX10_ends_68 : decode cX10_ends 68 = .ok (.iconst 0, 1) := by decide +kernel
theorem dX10_ends_69 : decode cX10_ends 69 = .ok (.iaload, 1) := by decide +kernel
theorem dX10_ends_70 : decode cX10_ends 70 = .ok (.iconst 1, 1) := by decide +kernel
theorem dX10_ends_71 : decode cX10_ends 71 = .ok (.bastore, 1) := by decide +kernel
theorem dX10_ends_72 : decode cX10_ends 72 = .ok (.iconst 1, 1) := by decide +kernel
theorem dX10_ends_73 : decode cX10_ends 73 = .ok (.istore_n 2, 1) := by decide +kernel
theorem dX10_ends_74 : decode cX10_ends 74 = .ok (.iconst 0, 1) := by decide +kernel
theorem dX10_ends_75 : decode cX10_ends 75 = .ok (.istore_n 3, 1) := by decide +kernel
theorem dX10_ends_76 : decode cX10_ends 76 = .ok (.iconst (-1), 1) := by decide +kernel
theorem dX10_ends_77 : decode cX10_ends 77 = .ok (.istore 4, 2) := by decide +kernel
theorem dX10_ends_79 : decode cX10_ends 79 = .ok (.iconst (-1), 1) := by decide +kernel
theorem dX10_ends_80 : decode cX10_ends 80 = .ok (.istore 5, 2) := by decide +kernel
theorem dX10_ends_82 : decode cX10_ends 82 = .ok (.iconst 0, 1) := by decide +kernel
theorem dX10_ends_83 : decode cX10_ends 83 = .ok (.istore 6, 2) := by decide +kernel
theorem dX10_ends_85 : decode cX10_ends 85 = .ok (.iload 6, 2) := by decide +kernel
theorem dX10_ends_87 : decode cX10_ends 87 = .ok (.iload_n 2, 1) := by decide +kernel
theorem dX10_ends_88 : decode cX10_ends 88 = .ok (.if_icmp .ge 187, 3) := by decide +kernel
theorem dX10_ends_91 : decode cX10_ends 91 = .ok (.aload_n 0, 1) := by decide +kernel
theorem dX10_ends_92 : decode cX10_ends 92 = .ok (.aload_n 0, 1) := by decide +kernel
theorem dX10_ends_93 : decode cX10_ends 93 = .ok (.getfield 54, 3) := by decide +kernel
theorem dX10_ends_96 : decode cX10_ends 96 = .ok (.iload 6, 2) := by decide +kernel
theorem dX10_ends_98 : decode cX10_ends 98 = .ok (.iaload, 1) := by decide +kernel
theorem dX10_ends_99 : decode cX10_ends 99 = .ok (.invokevirtual 177, 3) := by decide +kernel
theorem dX10_ends_102 : decode cX10_ends 102 = .ok (.aload_n 0, 1) := by decide +kernel
theorem dX10_ends_103 : decode cX10_ends 103 = .ok (.iconst 0, 1) := by decide +kernel
theorem dX10_ends_104 : decode cX10_ends 104 = .ok (.aload_n 0, 1) := by decide +kernel
theorem dX10_ends_105 : decode cX10_ends 105 = .ok (.getfield 13, 3) := by decide +kernel
theorem dX10_ends_108 : decode cX10_ends 108 = .ok (.invokevirtual 217, 3) := by decide +kernel
theorem dX10_ends_111 : decode cX10_ends 111 = .ok (.istore 7, 2) := by decide +kernel
theorem dX10_ends_113 : decode cX10_ends 113 = .ok (.iload 7, 2) := by decide +kernel
theorem dX10_ends_115 : decode cX10_ends 115 = .ok (.iconst (-1), 1) := by decide +kernel
theorem dX10_ends_116 : decode cX10_ends 116 = .ok (.if_icmp .ne 68, 3) := by decide +kernel
theorem dX10_ends_119 : decode cX10_ends 119 = .ok (.aload_n 0, 1) := by decide +kernel
theorem dX10_ends_120 : decode cX10_ends 120 = .ok (.invokevirtual 200, 3) := by decide +kernel
theorem dX10_ends_123 : decode cX10_ends 123 = .ok (.istore 8, 2) := by decide +kernel
theorem dX10_ends_125 : decode cX10_ends 125 = .ok (.iinc 3 1, 3) := by decide +kernel
theorem dX10_ends_128 : decode cX10_ends 128 = .ok (.iload 8, 2) := by decide +kernel
theorem dX10_ends_130 : decode cX10_ends 130 = .ok (.iload 4, 2) := by decide +kernel
theorem dX10_ends_132 : decode cX10_ends 132 = .ok (.if_icmp .gt 22, 3) := by decide +kernel
theorem dX10_ends_135 : decode cX10_ends 135 = .ok (.iload 8, 2) := by decide +kernel
theorem dX10_ends_137 : decode cX10_ends 137 = .ok (.iload 4, 2) := by decide +kernel
theorem dX10_ends_139 : decode cX10_ends 139 = .ok (.if_icmp .ne 25, 3) := by decide +kernel
theorem dX10_ends_142 : decode cX10_ends 142 = .ok (.aload_n 0, 1) := by decide +kernel
theorem dX10_ends_143 : decode cX10_ends 143 = .ok (.getfield 54, 3) := by decide +kernel
theorem dX10_ends_146 : decode cX10_ends 146 = .ok (.iload 6, 2) := by decide +kernel
theorem dX10_ends_148 : decode cX10_ends 148 = .ok (.iaload, 1) := by decide +kernel
theorem dX10_ends_149 : decode cX10_ends 149 = .ok (.iload 5, 2) := by decide +kernel
theorem dX10_ends_151 : decode cX10_ends 151 = .ok (.if_icmp .ge 13, 3) := by decide +kernel
theorem dX10_ends_154 : decode cX10_ends 154 = .ok (.aload_n 0, 1) := by decide +kernel
theorem dX10_ends_155 : decode cX10_ends 155 = .ok (.getfield 54, 3) := by decide +kernel
theorem dX10_ends_158 : decode cX10_ends 158 = .ok (.iload 6, 2) := by decide +kernel
theorem dX10_ends_160 : decode cX10_ends 160 = .ok (.iaload, 1) := by decide +kernel
theorem dX10_ends_161 : decode cX10_ends 161 = .ok (.goto 5, 3) := by decide +kernel
theorem dX10_ends_164 : decode cX10_ends 164 = .ok (.iload 5, 2) := by decide +kernel
theorem dX10_ends_166 : decode cX10_ends 166 = .ok (.istore 5, 2) := by decide +kernel
theorem dX10_ends_168 : decode cX10_ends 168 = .ok (.iload 8, 2) := by decide +kernel
theorem dX10_ends_170 : decode cX10_ends 170 = .ok (.iload 4, 2) := by decide +kernel
theorem dX10_ends_172 : decode cX10_ends 172 = .ok (.if_icmp .le 8, 3) := by decide +kernel
theorem dX10_ends_175 : decode cX10_ends 175 = .ok (.iload 8, 2) := by decide +kernel
theorem dX10_ends_177 : decode cX10_ends 177 = .ok (.goto 5, 3) := by decide +kernel
theorem dX10_ends_180 : decode cX10_ends 180 = .ok (.iload 4, 2) := by decide +kernel
theorem dX10_ends_182 : decode cX10_ends 182 = .ok (.istore 4, 2) := by decide +kernel
theorem dX10_ends_184 : decode cX10_ends 184 = .ok (.iload 7, 2) := by decide +kernel
theorem dX10_ends_186 : decode cX10_ends 186 = .ok (.iconst (-1), 1) := by decide +kernel
theorem dX10_ends_187 : decode cX10_ends 187 = .ok (.if_icmp .eq 82, 3) := by decide +kernel
theorem dX10_ends_190 : decode cX10_ends 190 = .ok (.aload_n 0, 1) := by decide +kernel
theorem dX10_ends_191 : decode cX10_ends 191 = .ok (.aload_n 0, 1) := by decide +kernel
theorem dX10_ends_192 : decode cX10_ends 192 = .ok (.getfield 204, 3) := by decide +kernel
theorem dX10_ends_195 : decode cX10_ends 195 = .ok (.aload_n 0, 1) := by decide +kernel
theorem dX10_ends_196 : decode cX10_ends 196 = .ok (.getfield 207, 3) := by decide +kernel
theorem dX10_ends_199 : decode cX10_ends 199 = .ok (.aload_n 0, 1) := by decide +kernel
theorem dX10_ends_200 : decode cX10_ends 200 = .ok (.getfield 210, 3) := by decide +kernel
theorem dX10_ends_203 : decode cX10_ends 203 = .ok (.invokevirtual 196, 3) := by decide +kernel
theorem dX10_ends_206 : decode cX10_ends 206 = .ok (.aload_n 0, 1) := by decide +kernel
theorem dX10_ends_207 : decode cX10_ends 207 = .ok (.invokevirtual 224, 3) := by decide +kernel
theorem dX10_ends_210 : decode cX10_ends 210 = .ok (.istore 8, 2) := by decide +kernel
theorem dX10_ends_212 : decode cX10_ends 212 = .ok (.aload_n 0, 1) := by decide +kernel
theorem dX10_ends_213 : decode cX10_ends 213 = .ok (.getfield 51, 3) := by decide +kernel
theorem dX10_ends_216 : decode cX10_ends 216 = .ok (.iload 8, 2) := by decide +kernel
theorem dX10_ends_218 : decode cX10_ends 218 = .ok (.baload, 1) := by decide +kernel
theorem dX10_ends_219 : decode cX10_ends 219 = .ok (.ifCond .ne 22, 3) := by decide +kernel
theorem dX10_ends_222 : decode cX10_ends 222 = .ok (.aload_n 0, 1) := by decide +kernel
theorem dX10_ends_223 : decode cX10_ends 223 = .ok (.getfield 51, 3) := by decide +kernel
theorem dX10_ends_226 : decode cX10_ends 226 = .ok (.iload 8, 2) := by decide +kernel
theorem dX10_ends_228 : decode cX10_ends 228 = .ok (.iconst 1, 1) := by decide +kernel
theorem dX10_ends_229 : decode cX10_ends 229 = .ok (.bastore, 1) := by decide +kernel
theorem dX10_ends_230 : decode cX10_ends 230 = .ok (.aload_n 0, 1) := by decide +kernel
theorem dX10_ends_231 : decode cX10_ends 231 = .ok (.getfield 54, 3) := by decide +kernel
theorem dX10_ends_234 : decode cX10_ends 234 = .ok (.iload_n 2, 1) := by decide +kernel
theorem dX10_ends_235 : decode cX10_ends 235 = .ok (.iload 8, 2) := by decide +kernel
theorem dX10_ends_237 : decode cX10_ends 237 = .ok (.iastore, 1) := by decide +kernel
theorem dX10_ends_238 : decode cX10_ends 238 = .ok (.iinc 2 1, 3) := by decide +kernel
theorem dX10_ends_241 : decode cX10_ends 241 = .ok (.aload_n 0, 1) := by decide +kernel
theorem dX10_ends_242 : decode cX10_ends 242 = .ok (.aload_n 0, 1) := by decide +kernel
theorem dX10_ends_243 : decode cX10_ends 243 = .ok (.getfield 54, 3) := by decide +kernel
theorem dX10_ends_246 : decode cX10_ends 246 = .ok (.iload 6, 2) := by decide +kernel
theorem dX10_ends_248 : decode cX10_ends 248 = .ok (.iaload, 1) := by decide +kernel
theorem dX10_ends_249 : decode cX10_ends 249 = .ok (.invokevirtual 177, 3) := by decide +kernel
theorem dX10_ends_252 : decode cX10_ends 252 = .ok (.aload_n 0, 1) := by decide +kernel
theorem dX10_ends_253 : decode cX10_ends 253 = .ok (.iload 7, 2) := by decide +kernel
theorem dX10_ends_255 : decode cX10_ends 255 = .ok (.iconst 1, 1) := by decide +kernel
theorem dX10_ends_256 : decode cX10_ends 256 = .ok (.iadd, 1) := by decide +kernel
theorem dX10_ends_257 : decode cX10_ends 257 = .ok (.aload_n 0, 1) := by decide +kernel
theorem dX10_ends_258 : decode cX10_ends 258 = .ok (.getfield 13, 3) := by decide +kernel
theorem dX10_ends_261 : decode cX10_ends 261 = .ok (.invokevirtual 217, 3) := by decide +kernel
theorem dX10_ends_264 : decode cX10_ends 264 = .ok (.istore 7, 2) := by decide +kernel
theorem dX10_ends_266 : decode cX10_ends 266 = .ok (.goto (-82), 3) := by decide +kernel
theorem dX10_ends_269 : decode cX10_ends 269 = .ok (.iinc 6 1, 3) := by decide +kernel
theorem dX10_ends_272 : decode cX10_ends 272 = .ok (.goto (-187), 3) := by decide +kernel
theorem dX10_ends_275 : decode cX10_ends 275 = .ok (.iload_n 1, 1) := by decide +kernel
theorem dX10_ends_276 : decode cX10_ends 276 = .ok (.ifCond .ne 7, 3) := by decide +kernel
theorem dX10_ends_279 : decode cX10_ends 279 = .ok (.iload_n 3, 1) := by decide +kernel
theorem dX10_ends_280 : decode cX10_ends 280 = .ok (.goto 15, 3) := by decide +kernel
theorem dX10_ends_283 : decode cX10_ends 283 = .ok (.iload_n 1, 1) := by decide +kernel
theorem dX10_ends_284 : decode cX10_ends 284 = .ok (.iconst 1, 1) := by decide +kernel
theorem dX10_ends_285 : decode cX10_ends 285 = .ok (.if_icmp .ne 8, 3) := by decide +kernel
theorem dX10_ends_288 : decode cX10_ends 288 = .ok (.iload 4, 2) := by decide +kernel
theorem dX10_ends_290 : decode cX10_ends 290 = .ok (.goto 5, 3) := by decide +kernel
theorem dX10_ends_293 : decode cX10_ends 293 = .ok (.iload 5, 2) := by decide +kernel
theorem dX10_ends_295 : decode cX10_ends 295 = .ok (.ireturn, 1) := by decide +kernel
theorem dX10_hint_0 : decode cX10_hint 0 = .ok (.aload_n 0, 1) := by decide +kernel
theorem dX10_hint_1 : decode cX10_hint 1 = .ok (.iload_n 1, 1) := by decide +kernel
theorem dX10_hint_2 : decode cX10_hint 2 = .ok (.invokevirtual 166, 3) := by decide +kernel
theorem dX10_hint_5 : decode cX10_hint 5 = .ok (.ifCond .ne 6, 3) := by decide +kernel
theorem dX10_hint_8 : decode cX10_hint 8 = .ok (.bipush (-2), 2) := by decide +kernel
theorem dX10_hint_10 : decode cX10_hint 10 = .ok (.ireturn, 1) := by decide +kernel
theorem dX10_hint_11 : decode cX10_hint 11 = .ok (.aload_n 0, 1) := by decide +kernel
theorem dX10_hint_12 : decode cX10_hint 12 = .ok (.getfield 35, 3) := by decide +kernel
theorem dX10_hint_15 : decode cX10_hint 15 = .ok (.iconst 0, 1) := by decide +kernel
theorem dX10_hint_16 : decode cX10_hint 16 = .ok (.iaload, 1) := by decide +kernel
theorem dX10_hint_17 : decode cX10_hint 17 = .ok (.ifCond .ne 6, 3) := by decide +kernel
theorem dX10_hint_20 : decode cX10_hint 20 = .ok (.bipush (-4), 2) := by decide +kernel
theorem dX10_hint_22 : decode cX10_hint 22 = .ok (.ireturn, 1) := by decide +kernel
theorem dX10_hint_23 : decode cX10_hint 23 = .ok (.aload_n 0, 1) := by decide +kernel
theorem dX10_hint_24 : decode cX10_hint 24 = .ok (.invokevirtual 190, 3) := by decide +kernel
theorem dX10_hint_27 : decode cX10_hint 27 = .ok (.iconst (-1), 1) := by decide +kernel
theorem dX10_hint_28 : decode cX10_hint 28 = .ok (.istore_n 2, 1) := by decide +kernel
theorem dX10_hint_29 : decode cX10_hint 29 = .ok (.aload_n 0, 1) := by decide +kernel
theorem dX10_hint_30 : decode cX10_hint 30 = .ok (.iconst 0, 1) := by decide +kernel
theorem dX10_hint_31 : decode cX10_hint 31 = .ok (.aload_n 0, 1) := by decide +kernel
theorem dX10_hint_32 : decode cX10_hint 32 = .ok (.getfield 13, 3) := by decide +kernel
theorem dX10_hint_35 : decode cX10_hint 35 = .ok (.invokevirtual 217, 3) := by decide +kernel
theorem dX10_hint_38 : decode cX10_hint 38 = .ok (.istore_n 3, 1) := by decide +kernel
theorem dX10_hint_39 : decode cX10_hint 39 = .ok (.iload_n 3, 1) := by decide +kernel
theorem dX10_hint_40 : decode cX10_hint 40 = .ok (.iconst (-1), 1) := by decide +kernel
theorem dX10_hint_41 : decode cX10_hint 41 = .ok (.if_icmp .eq 171, 3) := by decide +kernel
theorem dX10_hint_44 : decode cX10_hint 44 = .ok (.aload_n 0, 1) := by decide +kernel
theorem dX10_hint_45 : decode cX10_hint 45 = .ok (.getfield 204, 3) := by decide +kernel
theorem dX10_hint_48 : decode cX10_hint 48 = .ok (.iload_n 1, 1) := by decide +kernel
theorem dX10_hint_49 : decode cX10_hint 49 = .ok (.if_icmp .eq 19, 3) := by decide +kernel
theorem dX10_hint_52 : decode cX10_hint 52 = .ok (.aload_n 0, 1) := by decide +kernel
theorem dX10_hint_53 : decode cX10_hint 53 = .ok (.getfield 207, 3) := by decide +kernel
theorem dX10_hint_56 : decode cX10_hint 56 = .ok (.iload_n 1, 1) := by decide +kernel
theorem dX10_hint_57 : decode cX10_hint 57 = .ok (.if_icmp .eq 11, 3) := by decide +kernel
theorem dX10_hint_60 : decode cX10_hint 60 = .ok (.aload_n 0, 1) := by decide +kernel
theorem dX10_hint_61 : decode cX10_hint 61 = .ok (.getfield 210, 3) := by decide +kernel
theorem dX10_hint_64 : decode cX10_hint 64 = .ok (.iload_n 1, 1) := by decide +kernel
theorem dX10_hint_65 : decode cX10_hint 65 = .ok (.if_icmp .ne 7, 3) := by decide +kernel
theorem dX10_hint_68 : decode cX10_hint 68 = .ok (.iconst 1, 1) := by decide +kernel
theorem dX10_hint_69 : decode cX10_hint 69 = .ok (.goto 4, 3) := by decide +kernel
theorem dX10_hint_72 : decode cX10_hint 72 = .ok (.iconst 0, 1) := by decide +kernel
theorem dX10_hint_73 : decode cX10_hint 73 = .ok (.istore 4, 2) := by decide +kernel
theorem dX10_hint_75 : decode cX10_hint 75 = .ok (.iload 4, 2) := by decide +kernel
theorem dX10_hint_77 : decode cX10_hint 77 = .ok (.ifCond .eq 120, 3) := by decide +kernel
theorem dX10_hint_80 : decode cX10_hint 80 = .ok (.aload_n 0, 1) := by decide +kernel
theorem dX10_hint_81 : decode cX10_hint 81 = .ok (.getfield 204, 3) := by decide +kernel
theorem dX10_hint_84 : decode cX10_hint 84 = .ok (.iload_n 1, 1) := by decide +kernel
theorem dX10_hint_85 : decode cX10_hint 85 = .ok (.if_icmp .ne 15, 3) := by decide +kernel
theorem dX10_hint_88 : decode cX10_hint 88 = .ok (.aload_n 0, 1) := by decide +kernel
theorem dX10_hint_89 : decode cX10_hint 89 = .ok (.getfield 45, 3) := by decide +kernel
theorem dX10_hint_92 : decode cX10_hint 92 = .ok (.aload_n 0, 1) := by decide +kernel
theorem dX10_hint_93 : decode cX10_hint 93 = .ok (.getfield 207, 3) := by decide +kernel
theorem dX10_hint_96 : decode cX10_hint 96 = .ok (.iaload, 1) := by decide +kernel
theorem dX10_hint_97 : decode cX10_hint 97 = .ok (.goto 40, 3) := by decide +kernel
theorem dX10_hint_100 : decode cX10_hint 100 = .ok (.aload_n 0, 1) := by decide +kernel
theorem dX10_hint_101 : decode cX10_hint 101 = .ok (.getfield 210, 3) := by decide +kernel
theorem dX10_hint_104 : decode cX10_hint 104 = .ok (.iload_n 1, 1) := by decide +kernel
theorem dX10_hint_105 : decode cX10_hint 105 = .ok (.if_icmp .eq 11, 3) := by decide +kernel
theorem dX10_hint_108 : decode cX10_hint 108 = .ok (.aload_n 0, 1) := by decide +kernel
theorem dX10_hint_109 : decode cX10_hint 109 = .ok (.getfield 210, 3) := by decide +kernel
theorem dX10_hint_112 : decode cX10_hint 112 = .ok (.iconst (-1), 1) := by decide +kernel
theorem dX10_hint_113 : decode cX10_hint 113 = .ok (.if_icmp .ne 15, 3) := by decide +kernel
theorem dX10_hint_116 : decode cX10_hint 116 = .ok (.aload_n 0, 1) := by decide +kernel
theorem dX10_hint_117 : decode cX10_hint 117 = .ok (.getfield 45, 3) := by decide +kernel
theorem dX10_hint_120 : decode cX10_hint 120 = .ok (.aload_n 0, 1) := by decide +kernel
theorem dX10_hint_121 : decode cX10_hint 121 = .ok (.getfield 204, 3) := by decide +kernel
theorem dX10_hint_124 : decode cX10_hint 124 = .ok (.iaload, 1) := by decide +kernel
theorem dX10_hint_125 : decode cX10_hint 125 = .ok (.goto 12, 3) := by decide +kernel
theorem dX10_hint_128 : decode cX10_hint 128 = .ok (.aload_n 0, 1) := by decide +kernel
theorem dX10_hint_129 : decode cX10_hint 129 = .ok (.getfield 45, 3) := by decide +kernel
theorem dX10_hint_132 : decode cX10_hint 132 = .ok (.aload_n 0, 1) := by decide +kernel
theorem dX10_hint_133 : decode cX10_hint 133 = .ok (.getfield 210, 3) := by decide +kernel
theorem dX10_hint_136 : decode cX10_hint 136 = .ok (.iaload, 1) := by decide +kernel
theorem dX10_hint_137 : decode cX10_hint 137 = .ok (.istore 5, 2) := by decide +kernel
theorem dX10_hint_139 : decode cX10_hint 139 = .ok (.iload_n 2, 1) := by decide +kernel
theorem dX10_hint_140 : decode cX10_hint 140 = .ok (.iconst (-1), 1) := by decide +kernel
theorem dX10_hint_141 : decode cX10_hint 141 = .ok (.if_icmp .ne 7, 3) := by decide +kernel
theorem dX10_hint_144 : decode cX10_hint 144 = .ok (.iconst 1, 1) := by decide +kernel
theorem dX10_hint_145 : decode cX10_hint 145 = .ok (.goto 27, 3) := by decide +kernel
theorem dX10_hint_148 : decode cX10_hint 148 = .ok (.aload_n 0, 1) := by decide +kernel
theorem dX10_hint_149 : decode cX10_hint 149 = .ok (.getfield 20, 3) := by decide +kernel
theorem dX10_hint_152 : decode cX10_hint 152 = .ok (.bipush 7, 2) := by decide +kernel
theorem dX10_hint_154 : decode cX10_hint 154 = .ok (.iload_n 1, 1) := by decide +kernel
theorem dX10_hint_155 : decode cX10_hint 155 = .ok (.imul, 1) := by decide +kernel
theorem dX10_hint_156 : decode cX10_hint 156 = .ok (.iload 5, 2) := by decide +kernel
theorem dX10_hint_158 : decode cX10_hint 158 = .ok (.iadd, 1) := by decide +kernel
theorem dX10_hint_159 : decode cX10_hint 159 = .ok (.iaload, 1) := by decide +kernel
theorem dX10_hint_160 : decode cX10_hint 160 = .ok (.aload_n 0, 1) := by decide +kernel
theorem dX10_hint_161 : decode cX10_hint 161 = .ok (.getfield 20, 3) := by decide +kernel
theorem dX10_hint_164 : decode cX10_hint 164 = .ok (.bipush 7, 2) := by decide +kernel
theorem dX10_hint_166 : decode cX10_hint 166 = .ok (.iload_n 1, 1) := by decide +kernel
theorem dX10_hint_167 : decode cX10_hint 167 = .ok (.imul, 1) := by decide +kernel
theorem dX10_hint_168 : decode cX10_hint 168 = .ok (.iload_n 2, 1) := by decide +kernel
theorem dX10_hint_169 : decode cX10_hint 169 = .ok (.iadd, 1) := by decide +kernel
theorem dX10_hint_170 : decode cX10_hint 170 = .ok (.iaload, 1) := by decide +kernel
theorem dX10_hint_171 : decode cX10_hint 171 = .ok (.isub, 1) := by decide +kernel
theorem dX10_hint_172 : decode cX10_hint 172 = .ok (.istore 6, 2) := by decide +kernel
theorem dX10_hint_174 : decode cX10_hint 174 = .ok (.iload 6, 2) := by decide +kernel
theorem dX10_hint_176 : decode cX10_hint 176 = .ok (.ifCond .gt 14, 3) := by decide +kernel
theorem dX10_hint_179 : decode cX10_hint 179 = .ok (.iload 6, 2) := by decide +kernel
theorem dX10_hint_181 : decode cX10_hint 181 = .ok (.ifCond .ne 14, 3) := by decide +kernel
theorem dX10_hint_184 : decode cX10_hint 184 = .ok (.iload 5, 2) := by decide +kernel
theorem dX10_hint_186 : decode cX10_hint 186 = .ok (.iload_n 2, 1) := by decide +kernel
theorem dX10_hint_187 : decode cX10_hint 187 = .ok (.if_icmp .ge 8, 3) := by decide +kernel
theorem dX10_hint_190 : decode cX10_hint 190 = .ok (.iload 5, 2) := by decide +kernel
theorem dX10_hint_192 : decode cX10_hint 192 = .ok (.goto 4, 3) := by decide +kernel
theorem dX10_hint_195 : decode cX10_hint 195 = .ok (.iload_n 2, 1) := by decide +kernel
theorem dX10_hint_196 : decode cX10_hint 196 = .ok (.istore_n 2, 1) := by decide +kernel
theorem dX10_hint_197 : decode cX10_hint 197 = .ok (.aload_n 0, 1) := by decide +kernel
theorem dX10_hint_198 : decode cX10_hint 198 = .ok (.iload_n 3, 1) := by decide +kernel
theorem dX10_hint_199 : decode cX10_hint 199 = .ok (.iconst 1, 1) := by decide +kernel
theorem dX10_hint_200 : decode cX10_hint 200 = .ok (.iadd, 1) := by decide +kernel
theorem dX10_hint_201 : decode cX10_hint 201 = .ok (.aload_n 0, 1) := by decide +kernel
theorem dX10_hint_202 : decode cX10_hint 202 = .ok (.getfield 13, 3) := by decide +kernel
theorem dX10_hint_205 : decode cX10_hint 205 = .ok (.invokevirtual 217, 3) := by decide +kernel
theorem dX10_hint_208 : decode cX10_hint 208 = .ok (.istore_n 3, 1) := by decide +kernel
theorem dX10_hint_209 : decode cX10_hint 209 = .ok (.goto (-170), 3) := by decide +kernel
theorem dX10_hint_212 : decode cX10_hint 212 = .ok (.iload_n 2, 1) := by decide +kernel
theorem dX10_hint_213 : decode cX10_hint 213 = .ok (.ireturn, 1) := by decide +kernel
theorem dX10_lawful_0 : decode cX10_lawful 0 = .ok (.iconst 0, 1) := by decide +kernel
theorem dX10_lawful_1 : decode cX10_lawful 1 = .ok (.istore_n 1, 1) := by decide +kernel
theorem dX10_lawful_2 : decode cX10_lawful 2 = .ok (.iconst 0, 1) := by decide +kernel
theorem dX10_lawful_3 : decode cX10_lawful 3 = .ok (.istore_n 2, 1) := by decide +kernel
theorem dX10_lawful_4 : decode cX10_lawful 4 = .ok (.iload_n 2, 1) := by decide +kernel
theorem dX10_lawful_5 : decode cX10_lawful 5 = .ok (.aload_n 0, 1) := by decide +kernel
theorem dX10_lawful_6 : decode cX10_lawful 6 = .ok (.getfield 7, 3) := by decide +kernel
