theorem dX10_lawful_9 : decode cX10_lawful 9 = .ok (.invokestatic 173, 3) := by decide +kernel
theorem dX10_lawful_12 : decode cX10_lawful 12 = .ok (.if_icmp .ge 29, 3) := by decide +kernel
theorem dX10_lawful_15 : decode cX10_lawful 15 = .ok (.aload_n 0, 1) := by decide +kernel
theorem dX10_lawful_16 : decode cX10_lawful 16 = .ok (.iload_n 2, 1) := by decide +kernel
theorem dX10_lawful_17 : decode cX10_lawful 17 = .ok (.invokevirtual 177, 3) := by decide +kernel
theorem dX10_lawful_20 : decode cX10_lawful 20 = .ok (.iload_n 1, 1) := by decide +kernel
theorem dX10_lawful_21 : decode cX10_lawful 21 = .ok (.aload_n 0, 1) := by decide +kernel
theorem dX10_lawful_22 : decode cX10_lawful 22 = .ok (.invokevirtual 180, 3) := by decide +kernel
theorem dX10_lawful_25 : decode cX10_lawful 25 = .ok (.ifCond .eq 7, 3) := by decide +kernel
theorem dX10_lawful_28 : decode cX10_lawful 28 = .ok (.iconst 1, 1) := by decide +kernel
theorem dX10_lawful_29 : decode cX10_lawful 29 = .ok (.goto 4, 3) := by decide +kernel
theorem dX10_lawful_32 : decode cX10_lawful 32 = .ok (.iconst 0, 1) := by decide +kernel
theorem dX10_lawful_33 : decode cX10_lawful 33 = .ok (.iadd, 1) := by decide +kernel
theorem dX10_lawful_34 : decode cX10_lawful 34 = .ok (.istore_n 1, 1) := by decide +kernel
theorem dX10_lawful_35 : decode cX10_lawful 35 = .ok (.iinc 2 1, 3) := by decide +kernel
theorem dX10_lawful_38 : decode cX10_lawful 38 = .ok (.goto (-34), 3) := by decide +kernel
theorem dX10_lawful_41 : decode cX10_lawful 41 = .ok (.iload_n 1, 1) := by decide +kernel
theorem dX10_lawful_42 : decode cX10_lawful 42 = .ok (.ireturn, 1) := by decide +kernel
theorem dX10_divisor_0 : decode cX10_divisor 0 = .ok (.iload_n 0, 1) := by decide +kernel
theorem dX10_divisor_1 : decode cX10_divisor 1 = .ok (.istore_n 2, 1) := by decide +kernel
theorem dX10_divisor_2 : decode cX10_divisor 2 = .ok (.iload_n 1, 1) := by decide +kernel
theorem dX10_divisor_3 : decode cX10_divisor 3 = .ok (.istore_n 3, 1) := by decide +kernel
theorem dX10_divisor_4 : decode cX10_divisor 4 = .ok (.iload_n 3, 1) := by decide +kernel
theorem dX10_divisor_5 : decode cX10_divisor 5 = .ok (.ifCond .eq 16, 3) := by decide +kernel
theorem dX10_divisor_8 : decode cX10_divisor 8 = .ok (.iload_n 2, 1) := by decide +kernel
theorem dX10_divisor_9 : decode cX10_divisor 9 = .ok (.iload_n 3, 1) := by decide +kernel
theorem dX10_divisor_10 : decode cX10_divisor 10 = .ok (.irem, 1) := by decide +kernel
theorem dX10_divisor_11 : decode cX10_divisor 11 = .ok (.istore 4, 2) := by decide +kernel
theorem dX10_divisor_13 : decode cX10_divisor 13 = .ok (.iload_n 3, 1) := by decide +kernel
theorem dX10_divisor_14 : decode cX10_divisor 14 = .ok (.istore_n 2, 1) := by decide +kernel
theorem dX10_divisor_15 : decode cX10_divisor 15 = .ok (.iload 4, 2) := by decide +kernel
theorem dX10_divisor_17 : decode cX10_divisor 17 = .ok (.istore_n 3, 1) := by decide +kernel
theorem dX10_divisor_18 : decode cX10_divisor 18 = .ok (.goto (-14), 3) := by decide +kernel
theorem dX10_divisor_21 : decode cX10_divisor 21 = .ok (.iload_n 2, 1) := by decide +kernel
theorem dX10_divisor_22 : decode cX10_divisor 22 = .ok (.ireturn, 1) := by decide +kernel
theorem dX10_isRingNumber_0 : decode cX10_isRingNumber 0 = .ok (.iload_n 0, 1) := by decide +kernel
theorem dX10_isRingNumber_1 : decode cX10_isRingNumber 1 = .ok (.ifCond .eq 13, 3) := by decide +kernel
theorem dX10_isRingNumber_4 : decode cX10_isRingNumber 4 = .ok (.iload_n 0, 1) := by decide +kernel
theorem dX10_isRingNumber_5 : decode cX10_isRingNumber 5 = .ok (.iconst 2, 1) := by decide +kernel
theorem dX10_isRingNumber_6 : decode cX10_isRingNumber 6 = .ok (.if_icmp .eq 8, 3) := by decide +kernel
theorem dX10_isRingNumber_9 : decode cX10_isRingNumber 9 = .ok (.iload_n 0, 1) := by decide +kernel
theorem dX10_isRingNumber_10 : decode cX10_isRingNumber 10 = .ok (.iconst 3, 1) := by decide +kernel
theorem dX10_isRingNumber_11 : decode cX10_isRingNumber 11 = .ok (.if_icmp .ne 7, 3) := by decide +kernel
theorem dX10_isRingNumber_14 : decode cX10_isRingNumber 14 = .ok (.iconst 1, 1) := by decide +kernel
theorem dX10_isRingNumber_15 : decode cX10_isRingNumber 15 = .ok (.goto 4, 3) := by decide +kernel
theorem dX10_isRingNumber_18 : decode cX10_isRingNumber 18 = .ok (.iconst 0, 1) := by decide +kernel
theorem dX10_isRingNumber_19 : decode cX10_isRingNumber 19 = .ok (.ireturn, 1) := by decide +kernel
theorem dX10_mean_0 : decode cX10_mean 0 = .ok (.iload_n 1, 1) := by decide +kernel
theorem dX10_mean_1 : decode cX10_mean 1 = .ok (.invokestatic 230, 3) := by decide +kernel
theorem dX10_mean_4 : decode cX10_mean 4 = .ok (.ifCond .eq 21, 3) := by decide +kernel
theorem dX10_mean_7 : decode cX10_mean 7 = .ok (.iload_n 2, 1) := by decide +kernel
theorem dX10_mean_8 : decode cX10_mean 8 = .ok (.iconst 0, 1) := by decide +kernel
theorem dX10_mean_9 : decode cX10_mean 9 = .ok (.iconst 1, 1) := by decide +kernel
theorem dX10_mean_10 : decode cX10_mean 10 = .ok (.invokestatic 69, 3) := by decide +kernel
theorem dX10_mean_13 : decode cX10_mean 13 = .ok (.ifCond .eq 12, 3) := by decide +kernel
theorem dX10_mean_16 : decode cX10_mean 16 = .ok (.iload_n 3, 1) := by decide +kernel
theorem dX10_mean_17 : decode cX10_mean 17 = .ok (.iconst 0, 1) := by decide +kernel
theorem dX10_mean_18 : decode cX10_mean 18 = .ok (.iconst 1, 1) := by decide +kernel
theorem dX10_mean_19 : decode cX10_mean 19 = .ok (.invokestatic 69, 3) := by decide +kernel
theorem dX10_mean_22 : decode cX10_mean 22 = .ok (.ifCond .ne 6, 3) := by decide +kernel
theorem dX10_mean_25 : decode cX10_mean 25 = .ok (.bipush (-3), 2) := by decide +kernel
theorem dX10_mean_27 : decode cX10_mean 27 = .ok (.ireturn, 1) := by decide +kernel
theorem dX10_mean_28 : decode cX10_mean 28 = .ok (.iconst 0, 1) := by decide +kernel
theorem dX10_mean_29 : decode cX10_mean 29 = .ok (.istore 4, 2) := by decide +kernel
theorem dX10_mean_31 : decode cX10_mean 31 = .ok (.iconst 0, 1) := by decide +kernel
theorem dX10_mean_32 : decode cX10_mean 32 = .ok (.istore 5, 2) := by decide +kernel
theorem dX10_mean_34 : decode cX10_mean 34 = .ok (.iconst 0, 1) := by decide +kernel
theorem dX10_mean_35 : decode cX10_mean 35 = .ok (.istore 6, 2) := by decide +kernel
theorem dX10_mean_37 : decode cX10_mean 37 = .ok (.iload 6, 2) := by decide +kernel
theorem dX10_mean_39 : decode cX10_mean 39 = .ok (.aload_n 0, 1) := by decide +kernel
theorem dX10_mean_40 : decode cX10_mean 40 = .ok (.getfield 7, 3) := by decide +kernel
theorem dX10_mean_43 : decode cX10_mean 43 = .ok (.invokestatic 173, 3) := by decide +kernel
theorem dX10_mean_46 : decode cX10_mean 46 = .ok (.if_icmp .ge 51, 3) := by decide +kernel
theorem dX10_mean_49 : decode cX10_mean 49 = .ok (.aload_n 0, 1) := by decide +kernel
theorem dX10_mean_50 : decode cX10_mean 50 = .ok (.iload 6, 2) := by decide +kernel
theorem dX10_mean_52 : decode cX10_mean 52 = .ok (.invokevirtual 177, 3) := by decide +kernel
theorem dX10_mean_55 : decode cX10_mean 55 = .ok (.aload_n 0, 1) := by decide +kernel
theorem dX10_mean_56 : decode cX10_mean 56 = .ok (.invokevirtual 180, 3) := by decide +kernel
theorem dX10_mean_59 : decode cX10_mean 59 = .ok (.ifCond .eq 32, 3) := by decide +kernel
theorem dX10_mean_62 : decode cX10_mean 62 = .ok (.aload_n 0, 1) := by decide +kernel
theorem dX10_mean_63 : decode cX10_mean 63 = .ok (.iload_n 1, 1) := by decide +kernel
theorem dX10_mean_64 : decode cX10_mean 64 = .ok (.invokevirtual 221, 3) := by decide +kernel
theorem dX10_mean_67 : decode cX10_mean 67 = .ok (.pop, 1) := by decide +kernel
theorem dX10_mean_68 : decode cX10_mean 68 = .ok (.iload 4, 2) := by decide +kernel
theorem dX10_mean_70 : decode cX10_mean 70 = .ok (.iload_n 2, 1) := by decide +kernel
theorem dX10_mean_71 : decode cX10_mean 71 = .ok (.ifCond .ne 10, 3) := by decide +kernel
theorem dX10_mean_74 : decode cX10_mean 74 = .ok (.aload_n 0, 1) := by decide +kernel
theorem dX10_mean_75 : decode cX10_mean 75 = .ok (.invokevirtual 227, 3) := by decide +kernel
theorem dX10_mean_78 : decode cX10_mean 78 = .ok (.goto 7, 3) := by decide +kernel
theorem dX10_mean_81 : decode cX10_mean 81 = .ok (.aload_n 0, 1) := by decide +kernel
theorem dX10_mean_82 : decode cX10_mean 82 = .ok (.invokevirtual 200, 3) := by decide +kernel
theorem dX10_mean_85 : decode cX10_mean 85 = .ok (.iadd, 1) := by decide +kernel
theorem dX10_mean_86 : decode cX10_mean 86 = .ok (.istore 4, 2) := by decide +kernel
theorem dX10_mean_88 : decode cX10_mean 88 = .ok (.iinc 5 1, 3) := by decide +kernel
theorem dX10_mean_91 : decode cX10_mean 91 = .ok (.iinc 6 1, 3) := by decide +kernel
theorem dX10_mean_94 : decode cX10_mean 94 = .ok (.goto (-57), 3) := by decide +kernel
theorem dX10_mean_97 : decode cX10_mean 97 = .ok (.iload 5, 2) := by decide +kernel
theorem dX10_mean_99 : decode cX10_mean 99 = .ok (.ifCond .ne 8, 3) := by decide +kernel
theorem dX10_mean_102 : decode cX10_mean 102 = .ok (.bipush (-4), 2) := by decide +kernel
theorem dX10_mean_104 : decode cX10_mean 104 = .ok (.goto 22, 3) := by decide +kernel
theorem dX10_mean_107 : decode cX10_mean 107 = .ok (.iload_n 3, 1) := by decide +kernel
theorem dX10_mean_108 : decode cX10_mean 108 = .ok (.ifCond .ne 8, 3) := by decide +kernel
theorem dX10_mean_111 : decode cX10_mean 111 = .ok (.iload 4, 2) := by decide +kernel
theorem dX10_mean_113 : decode cX10_mean 113 = .ok (.goto 5, 3) := by decide +kernel
theorem dX10_mean_116 : decode cX10_mean 116 = .ok (.iload 5, 2) := by decide +kernel
theorem dX10_mean_118 : decode cX10_mean 118 = .ok (.iload 4, 2) := by decide +kernel
theorem dX10_mean_120 : decode cX10_mean 120 = .ok (.iload 5, 2) := by decide +kernel
theorem dX10_mean_122 : decode cX10_mean 122 = .ok (.invokestatic 233, 3) := by decide +kernel
theorem dX10_mean_125 : decode cX10_mean 125 = .ok (.idiv, 1) := by decide +kernel
theorem dX10_mean_126 : decode cX10_mean 126 = .ok (.ireturn, 1) := by decide +kernel
theorem dX10_odds_0 : decode cX10_odds 0 = .ok (.aload_n 0, 1) := by decide +kernel
theorem dX10_odds_1 : decode cX10_odds 1 = .ok (.iload_n 1, 1) := by decide +kernel
theorem dX10_odds_2 : decode cX10_odds 2 = .ok (.invokevirtual 166, 3) := by decide +kernel
theorem dX10_odds_5 : decode cX10_odds 5 = .ok (.ifCond .eq 11, 3) := by decide +kernel
theorem dX10_odds_8 : decode cX10_odds 8 = .ok (.aload_n 0, 1) := by decide +kernel
theorem dX10_odds_9 : decode cX10_odds 9 = .ok (.iload_n 2, 1) := by decide +kernel
theorem dX10_odds_10 : decode cX10_odds 10 = .ok (.invokevirtual 166, 3) := by decide +kernel
theorem dX10_odds_13 : decode cX10_odds 13 = .ok (.ifCond .ne 6, 3) := by decide +kernel
theorem dX10_odds_16 : decode cX10_odds 16 = .ok (.bipush (-2), 2) := by decide +kernel
theorem dX10_odds_18 : decode cX10_odds 18 = .ok (.ireturn, 1) := by decide +kernel
theorem dX10_odds_19 : decode cX10_odds 19 = .ok (.iload_n 3, 1) := by decide +kernel
theorem dX10_odds_20 : decode cX10_odds 20 = .ok (.invokestatic 230, 3) := by decide +kernel
theorem dX10_odds_23 : decode cX10_odds 23 = .ok (.ifCond .eq 13, 3) := by decide +kernel
theorem dX10_odds_26 : decode cX10_odds 26 = .ok (.iload 4, 2) := by decide +kernel
theorem dX10_odds_28 : decode cX10_odds 28 = .ok (.iconst 0, 1) := by decide +kernel
theorem dX10_odds_29 : decode cX10_odds 29 = .ok (.iconst 1, 1) := by decide +kernel
theorem dX10_odds_30 : decode cX10_odds 30 = .ok (.invokestatic 69, 3) := by decide +kernel
theorem dX10_odds_33 : decode cX10_odds 33 = .ok (.ifCond .ne 6, 3) := by decide +kernel
theorem dX10_odds_36 : decode cX10_odds 36 = .ok (.bipush (-3), 2) := by decide +kernel
theorem dX10_odds_38 : decode cX10_odds 38 = .ok (.ireturn, 1) := by decide +kernel
theorem dX10_odds_39 : decode cX10_odds 39 = .ok (.iconst 0, 1) := by decide +kernel
theorem dX10_odds_40 : decode cX10_odds 40 = .ok (.istore 5, 2) := by decide +kernel
theorem dX10_odds_42 : decode cX10_odds 42 = .ok (.iconst 0, 1) := by decide +kernel
theorem dX10_odds_43 : decode cX10_odds 43 = .ok (.istore 6, 2) := by decide +kernel
theorem dX10_odds_45 : decode cX10_odds 45 = .ok (.iconst 0, 1) := by decide +kernel
theorem dX10_odds_46 : decode cX10_odds 46 = .ok (.istore 7, 2) := by decide +kernel
theorem dX10_odds_48 : decode cX10_odds 48 = .ok (.iload 7, 2) := by decide +kernel
theorem dX10_odds_50 : decode cX10_odds 50 = .ok (.aload_n 0, 1) := by decide +kernel
theorem dX10_odds_51 : decode cX10_odds 51 = .ok (.getfield 7, 3) := by decide +kernel
theorem dX10_odds_54 : decode cX10_odds 54 = .ok (.invokestatic 173, 3) := by decide +kernel
theorem dX10_odds_57 : decode cX10_odds 57 = .ok (.if_icmp .ge 51, 3) := by decide +kernel
theorem dX10_odds_60 : decode cX10_odds 60 = .ok (.aload_n 0, 1) := by decide +kernel
theorem dX10_odds_61 : decode cX10_odds 61 = .ok (.iload 7, 2) := by decide +kernel
theorem dX10_odds_63 : decode cX10_odds 63 = .ok (.invokevirtual 177, 3) := by decide +kernel
theorem dX10_odds_66 : decode cX10_odds 66 = .ok (.aload_n 0, 1) := by decide +kernel
theorem dX10_odds_67 : decode cX10_odds 67 = .ok (.invokevirtual 180, 3) := by decide +kernel
theorem dX10_odds_70 : decode cX10_odds 70 = .ok (.ifCond .eq 32, 3) := by decide +kernel
theorem dX10_odds_73 : decode cX10_odds 73 = .ok (.aload_n 0, 1) := by decide +kernel
theorem dX10_odds_74 : decode cX10_odds 74 = .ok (.iload_n 3, 1) := by decide +kernel
theorem dX10_odds_75 : decode cX10_odds 75 = .ok (.invokevirtual 221, 3) := by decide +kernel
theorem dX10_odds_78 : decode cX10_odds 78 = .ok (.pop, 1) := by decide +kernel
theorem dX10_odds_79 : decode cX10_odds 79 = .ok (.iload 5, 2) := by decide +kernel
theorem dX10_odds_81 : decode cX10_odds 81 = .ok (.aload_n 0, 1) := by decide +kernel
theorem dX10_odds_82 : decode cX10_odds 82 = .ok (.getfield 45, 3) := by decide +kernel
theorem dX10_odds_85 : decode cX10_odds 85 = .ok (.iload_n 1, 1) := by decide +kernel
theorem dX10_odds_86 : decode cX10_odds 86 = .ok (.iaload, 1) := by decide +kernel
theorem dX10_odds_87 : decode cX10_odds 87 = .ok (.iload_n 2, 1) := by decide +kernel
theorem dX10_odds_88 : decode cX10_odds 88 = .ok (.if_icmp .ne 7, 3) := by decide +kernel
theorem dX10_odds_91 : decode cX10_odds 91 = .ok (.iconst 1, 1) := by decide +kernel
theorem dX10_odds_92 : decode cX10_odds 92 = .ok (.goto 4, 3) := by decide +kernel
theorem dX10_odds_95 : decode cX10_odds 95 = .ok (.iconst 0, 1) := by decide +kernel
theorem dX10_odds_96 : decode cX10_odds 96 = .ok (.iadd, 1) := by decide +kernel
theorem dX10_odds_97 : decode cX10_odds 97 = .ok (.istore 5, 2) := by decide +kernel
theorem dX10_odds_99 : decode cX10_odds 99 = .ok (.iinc 6 1, 3) := by decide +kernel
theorem dX10_odds_102 : decode cX10_odds 102 = .ok (.iinc 7 1, 3) := by decide +kernel
theorem dX10_odds_105 : decode cX10_odds 105 = .ok (.goto (-57), 3) := by decide +kernel
theorem dX10_odds_108 : decode cX10_odds 108 = .ok (.iload 6, 2) := by decide +kernel
theorem dX10_odds_110 : decode cX10_odds 110 = .ok (.ifCond .ne 8, 3) := by decide +kernel
theorem dX10_odds_113 : decode cX10_odds 113 = .ok (.bipush (-4), 2) := by decide +kernel
theorem dX10_odds_115 : decode cX10_odds 115 = .ok (.goto 23, 3) := by decide +kernel
theorem dX10_odds_118 : decode cX10_odds 118 = .ok (.iload 4, 2) := by decide +kernel
theorem dX10_odds_120 : decode cX10_odds 120 = .ok (.ifCond .ne 8, 3) := by decide +kernel
theorem dX10_odds_123 : decode cX10_odds 123 = .ok (.iload 5, 2) := by decide +kernel
theorem dX10_odds_125 : decode cX10_odds 125 = .ok (.goto 5, 3) := by decide +kernel
theorem dX10_odds_128 : decode cX10_odds 128 = .ok (.iload 6, 2) := by decide +kernel
theorem dX10_odds_130 : decode cX10_odds 130 = .ok (.iload 5, 2) := by decide +kernel
theorem dX10_odds_132 : decode cX10_odds 132 = .ok (.iload 6, 2) := by decide +kernel
theorem dX10_odds_134 : decode cX10_odds 134 = .ok (.invokestatic 233, 3) := by decide +kernel
theorem dX10_odds_137 : decode cX10_odds 137 = .ok (.idiv, 1) := by decide +kernel
theorem dX10_odds_138 : decode cX10_odds 138 = .ok (.ireturn, 1) := by decide +kernel
theorem dX10_isLawfulBehind_0 : decode cX10_isLawfulBehind 0 = .ok (.iconst 1, 1) := by decide +kernel
theorem dX10_isLawfulBehind_1 : decode cX10_isLawfulBehind 1 = .ok (.istore_n 1, 1) := by decide +kernel
theorem dX10_isLawfulBehind_2 : decode cX10_isLawfulBehind 2 = .ok (.iconst 0, 1) := by decide +kernel
theorem dX10_isLawfulBehind_3 : decode cX10_isLawfulBehind 3 = .ok (.istore_n 2, 1) := by decide +kernel
theorem dX10_isLawfulBehind_4 : decode cX10_isLawfulBehind 4 = .ok (.iload_n 2, 1) := by decide +kernel
theorem dX10_isLawfulBehind_5 : decode cX10_isLawfulBehind 5 = .ok (.aload_n 0, 1) := by decide +kernel
theorem dX10_isLawfulBehind_6 : decode cX10_isLawfulBehind 6 = .ok (.getfield 7, 3) := by decide +kernel
theorem dX10_isLawfulBehind_9 : decode cX10_isLawfulBehind 9 = .ok (.if_icmp .ge 39, 3) := by decide +kernel
theorem dX10_isLawfulBehind_12 : decode cX10_isLawfulBehind 12 = .ok (.iload_n 1, 1) := by decide +kernel
theorem dX10_isLawfulBehind_13 : decode cX10_isLawfulBehind 13 = .ok (.ifCond .eq 27, 3) := by decide +kernel
theorem dX10_isLawfulBehind_16 : decode cX10_isLawfulBehind 16 = .ok (.aload_n 0, 1) := by decide +kernel
theorem dX10_isLawfulBehind_17 : decode cX10_isLawfulBehind 17 = .ok (.iload_n 2, 1) := by decide +kernel
theorem dX10_isLawfulBehind_18 : decode cX10_isLawfulBehind 18 = .ok (.aload_n 0, 1) := by decide +kernel
theorem dX10_isLawfulBehind_19 : decode cX10_isLawfulBehind 19 = .ok (.getfield 45, 3) := by decide +kernel
theorem dX10_isLawfulBehind_22 : decode cX10_isLawfulBehind 22 = .ok (.iload_n 2, 1) := by decide +kernel
theorem dX10_isLawfulBehind_23 : decode cX10_isLawfulBehind 23 = .ok (.iaload, 1) := by decide +kernel
theorem dX10_isLawfulBehind_24 : decode cX10_isLawfulBehind 24 = .ok (.aload_n 0, 1) := by decide +kernel
theorem dX10_isLawfulBehind_25 : decode cX10_isLawfulBehind 25 = .ok (.getfield 48, 3) := by decide +kernel
theorem dX10_isLawfulBehind_28 : decode cX10_isLawfulBehind 28 = .ok (.iload_n 2, 1) := by decide +kernel
theorem dX10_isLawfulBehind_29 : decode cX10_isLawfulBehind 29 = .ok (.iaload, 1) := by decide +kernel
theorem dX10_isLawfulBehind_30 : decode cX10_isLawfulBehind 30 = .ok (.invokevirtual 163, 3) := by decide +kernel
theorem dX10_isLawfulBehind_33 : decode cX10_isLawfulBehind 33 = .ok (.ifCond .eq 7, 3) := by decide +kernel
theorem dX10_isLawfulBehind_36 : decode cX10_isLawfulBehind 36 = .ok (.iconst 1, 1) := by decide +kernel
theorem dX10_isLawfulBehind_37 : decode cX10_isLawfulBehind 37 = .ok (.goto 4, 3) := by decide +kernel
theorem dX10_isLawfulBehind_40 : decode cX10_isLawfulBehind 40 = .ok (.iconst 0, 1) := by decide +kernel
theorem dX10_isLawfulBehind_41 : decode cX10_isLawfulBehind 41 = .ok (.istore_n 1, 1) := by decide +kernel
theorem dX10_isLawfulBehind_42 : decode cX10_isLawfulBehind 42 = .ok (.iinc 2 1, 3) := by decide +kernel
theorem dX10_isLawfulBehind_45 : decode cX10_isLawfulBehind 45 = .ok (.goto (-41), 3) := by decide +kernel
theorem dX10_isLawfulBehind_48 : decode cX10_isLawfulBehind 48 = .ok (.iload_n 1, 1) := by decide +kernel
theorem dX10_isLawfulBehind_49 : decode cX10_isLawfulBehind 49 = .ok (.ireturn, 1) := by decide +kernel
theorem dX10_week_0 : decode cX10_week 0 = .ok (.iload_n 1, 1) := by decide +kernel
theorem dX10_week_1 : decode cX10_week 1 = .ok (.iconst 1, 1) := by decide +kernel
theorem dX10_week_2 : decode cX10_week 2 = .ok (.bipush 7, 2) := by decide +kernel
theorem dX10_week_4 : decode cX10_week 4 = .ok (.invokestatic 69, 3) := by decide +kernel
theorem dX10_week_7 : decode cX10_week 7 = .ok (.ifCond .ne 6, 3) := by decide +kernel
theorem dX10_week_10 : decode cX10_week 10 = .ok (.bipush (-3), 2) := by decide +kernel
theorem dX10_week_12 : decode cX10_week 12 = .ok (.ireturn, 1) := by decide +kernel
theorem dX10_week_13 : decode cX10_week 13 = .ok (.aload_n 0, 1) := by decide +kernel
theorem dX10_week_14 : decode cX10_week 14 = .ok (.getfield 7, 3) := by decide +kernel
theorem dX10_week_17 : decode cX10_week 17 = .ok (.iconst 5, 1) := by decide +kernel
theorem dX10_week_18 : decode cX10_week 18 = .ok (.if_icmp .le 6, 3) := by decide +kernel
theorem dX10_week_21 : decode cX10_week 21 = .ok (.bipush (-4), 2) := by decide +kernel
theorem dX10_week_23 : decode cX10_week 23 = .ok (.ireturn, 1) := by decide +kernel
theorem dX10_week_24 : decode cX10_week 24 = .ok (.aload_n 0, 1) := by decide +kernel
theorem dX10_week_25 : decode cX10_week 25 = .ok (.getfield 7, 3) := by decide +kernel
theorem dX10_week_28 : decode cX10_week 28 = .ok (.invokestatic 173, 3) := by decide +kernel
theorem dX10_week_31 : decode cX10_week 31 = .ok (.istore_n 2, 1) := by decide +kernel
theorem dX10_week_32 : decode cX10_week 32 = .ok (.iconst 0, 1) := by decide +kernel
theorem dX10_week_33 : decode cX10_week 33 = .ok (.istore_n 3, 1) := by decide +kernel
theorem dX10_week_34 : decode cX10_week 34 = .ok (.iload_n 3, 1) := by decide +kernel
theorem dX10_week_35 : decode cX10_week 35 = .ok (.iload_n 2, 1) := by decide +kernel
theorem dX10_week_36 : decode cX10_week 36 = .ok (.if_icmp .ge 35, 3) := by decide +kernel
theorem dX10_week_39 : decode cX10_week 39 = .ok (.aload_n 0, 1) := by decide +kernel
theorem dX10_week_40 : decode cX10_week 40 = .ok (.iload_n 3, 1) := by decide +kernel
theorem dX10_week_41 : decode cX10_week 41 = .ok (.invokevirtual 177, 3) := by decide +kernel
theorem dX10_week_44 : decode cX10_week 44 = .ok (.aload_n 0, 1) := by decide +kernel
theorem dX10_week_45 : decode cX10_week 45 = .ok (.getfield 57, 3) := by decide +kernel
theorem dX10_week_48 : decode cX10_week 48 = .ok (.iload_n 3, 1) := by decide +kernel
theorem dX10_week_49 : decode cX10_week 49 = .ok (.aload_n 0, 1) := by decide +kernel
theorem dX10_week_50 : decode cX10_week 50 = .ok (.invokevirtual 180, 3) := by decide +kernel
theorem dX10_week_53 : decode cX10_week 53 = .ok (.ifCond .eq 10, 3) := by decide +kernel
theorem dX10_week_56 : decode cX10_week 56 = .ok (.aload_n 0, 1) := by decide +kernel
theorem dX10_week_57 : decode cX10_week 57 = .ok (.invokevirtual 227, 3) := by decide +kernel
theorem dX10_week_60 : decode cX10_week 60 = .ok (.goto 4, 3) := by decide +kernel
theorem dX10_week_63 : decode cX10_week 63 = .ok (.iconst (-1), 1) := by decide +kernel
theorem dX10_week_64 : decode cX10_week 64 = .ok (.iastore, 1) := by decide +kernel
theorem dX10_week_65 : decode cX10_week 65 = .ok (.iinc 3 1, 3) := by decide +kernel
theorem dX10_week_68 : decode cX10_week 68 = .ok (.goto (-34), 3) := by decide +kernel
theorem dX10_week_71 : decode cX10_week 71 = .ok (.iconst 1, 1) := by decide +kernel
theorem dX10_week_72 : decode cX10_week 72 = .ok (.istore_n 3, 1) := by decide +kernel
theorem dX10_week_73 : decode cX10_week 73 = .ok (.iload_n 3, 1) := by decide +kernel
theorem dX10_week_74 : decode cX10_week 74 = .ok (.iload_n 1, 1) := by decide +kernel
theorem dX10_week_75 : decode cX10_week 75 = .ok (.if_icmp .ge 202, 3) := by decide +kernel
theorem dX10_week_78 : decode cX10_week 78 = .ok (.iconst 0, 1) := by decide +kernel
theorem dX10_week_79 : decode cX10_week 79 = .ok (.istore 4, 2) := by decide +kernel
theorem dX10_week_81 : decode cX10_week 81 = .ok (.iload 4, 2) := by decide +kernel
theorem dX10_week_83 : decode cX10_week 83 = .ok (.iload_n 2, 1) := by decide +kernel
theorem dX10_week_84 : decode cX10_week 84 = .ok (.if_icmp .ge 17, 3) := by decide +kernel
theorem dX10_week_87 : decode cX10_week 87 = .ok (.aload_n 0, 1) := by decide +kernel
theorem dX10_week_88 : decode cX10_week 88 = .ok (.getfield 60, 3) := by decide +kernel
theorem dX10_week_91 : decode cX10_week 91 = .ok (.iload 4, 2) := by decide +kernel
theorem dX10_week_93 : decode cX10_week 93 = .ok (.iconst (-1), 1) := by decide +kernel
theorem dX10_week_94 : decode cX10_week 94 = .ok (.iastore, 1) := by decide +kernel
theorem dX10_week_95 : decode cX10_week 95 = .ok (.iinc 4 1, 3) := by decide +kernel
theorem dX10_week_98 : decode cX10_week 98 = .ok (.goto (-17), 3) := by decide +kernel
theorem dX10_week_101 : decode cX10_week 101 = .ok (.iconst 0, 1) := by decide +kernel
theorem dX10_week_102 : decode cX10_week 102 = .ok (.istore 4, 2) := by decide +kernel
theorem dX10_week_104 : decode cX10_week 104 = .ok (.iload 4, 2) := by decide +kernel
theorem dX10_week_106 : decode cX10_week 106 = .ok (.iload_n 2, 1) := by decide +kernel
theorem dX10_week_107 : decode cX10_week 107 = .ok (.if_icmp .ge 135, 3) := by decide +kernel
theorem dX10_week_110 : decode cX10_week 110 = .ok (.aload_n 0, 1) := by decide +kernel
theorem dX10_week_111 : decode cX10_week 111 = .ok (.getfield 57, 3) := by decide +kernel
theorem dX10_week_114 : decode cX10_week 114 = .ok (.iload 4, 2) := by decide +kernel
theorem dX10_week_116 : decode cX10_week 116 = .ok (.iaload, 1) := by decide +kernel
theorem dX10_week_117 : decode cX10_week 117 = .ok (.iconst (-1), 1) := by decide +kernel
theorem dX10_week_118 : decode cX10_week 118 = .ok (.if_icmp .eq 118, 3) := by decide +kernel
theorem dX10_week_121 : decode cX10_week 121 = .ok (.aload_n 0, 1) := by decide +kernel
theorem dX10_week_122 : decode cX10_week 122 = .ok (.iload 4, 2) := by decide +kernel
theorem dX10_week_124 : decode cX10_week 124 = .ok (.invokevirtual 177, 3) := by decide +kernel
theorem dX10_week_127 : decode cX10_week 127 = .ok (.iconst 0, 1) := by decide +kernel
theorem dX10_week_128 : decode cX10_week 128 = .ok (.istore 5, 2) := by decide +kernel
theorem dX10_week_130 : decode cX10_week 130 = .ok (.iload 5, 2) := by decide +kernel
theorem dX10_week_132 : decode cX10_week 132 = .ok (.aload_n 0, 1) := by decide +kernel
theorem dX10_week_133 : decode cX10_week 133 = .ok (.getfield 7, 3) := by decide +kernel
theorem dX10_week_136 : decode cX10_week 136 = .ok (.if_icmp .ge 23, 3) := by decide +kernel
theorem dX10_week_139 : decode cX10_week 139 = .ok (.aload_n 0, 1) := by decide +kernel
theorem dX10_week_140 : decode cX10_week 140 = .ok (.getfield 48, 3) := by decide +kernel
theorem dX10_week_143 : decode cX10_week 143 = .ok (.iload 5, 2) := by decide +kernel
theorem dX10_week_145 : decode cX10_week 145 = .ok (.aload_n 0, 1) := by decide +kernel
theorem dX10_week_146 : decode cX10_week 146 = .ok (.getfield 45, 3) := by decide +kernel
theorem dX10_week_149 : decode cX10_week 149 = .ok (.iload 5, 2) := by decide +kernel
theorem dX10_week_151 : decode cX10_week 151 = .ok (.iaload, 1) := by decide +kernel
theorem dX10_week_152 : decode cX10_week 152 = .ok (.iastore, 1) := by decide +kernel
theorem dX10_week_153 : decode cX10_week 153 = .ok (.iinc 5 1, 3) := by decide +kernel
theorem dX10_week_156 : decode cX10_week 156 = .ok (.goto (-26), 3) := by decide +kernel
theorem dX10_week_159 : decode cX10_week 159 = .ok (.iconst 0, 1) := by decide +kernel
theorem dX10_week_160 : decode cX10_week 160 = .ok (.istore 5, 2) := by decide +kernel
theorem dX10_week_162 : decode cX10_week 162 = .ok (.iload 5, 2) := by decide +kernel
theorem dX10_week_164 : decode cX10_week 164 = .ok (.iload_n 2, 1) := by decide +kernel
theorem dX10_week_165 : decode cX10_week 165 = .ok (.if_icmp .ge 71, 3) := by decide +kernel
theorem dX10_week_168 : decode cX10_week 168 = .ok (.aload_n 0, 1) := by decide +kernel
theorem dX10_week_169 : decode cX10_week 169 = .ok (.iload 5, 2) := by decide +kernel
theorem dX10_week_171 : decode cX10_week 171 = .ok (.invokevirtual 177, 3) := by decide +kernel
theorem dX10_week_174 : decode cX10_week 174 = .ok (.aload_n 0, 1) := by decide +kernel
theorem dX10_week_175 : decode cX10_week 175 = .ok (.invokevirtual 236, 3) := by decide +kernel
theorem dX10_week_178 : decode cX10_week 178 = .ok (.ifCond .eq 18, 3) := by decide +kernel
theorem dX10_week_181 : decode cX10_week 181 = .ok (.aload_n 0, 1) := by decide +kernel
theorem dX10_week_182 : decode cX10_week 182 = .ok (.getfield 57, 3) := by decide +kernel
theorem dX10_week_185 : decode cX10_week 185 = .ok (.iload 4, 2) := by decide +kernel
theorem dX10_week_187 : decode cX10_week 187 = .ok (.iaload, 1) := by decide +kernel
theorem dX10_week_188 : decode cX10_week 188 = .ok (.aload_n 0, 1) := by decide +kernel
theorem dX10_week_189 : decode cX10_week 189 = .ok (.invokevirtual 227, 3) := by decide +kernel
theorem dX10_week_192 : decode cX10_week 192 = .ok (.iadd, 1) := by decide +kernel
theorem dX10_week_193 : decode cX10_week 193 = .ok (.goto 4, 3) := by decide +kernel
theorem dX10_week_196 : decode cX10_week 196 = .ok (.iconst (-1), 1) := by decide +kernel
theorem dX10_week_197 : decode cX10_week 197 = .ok (.istore 6, 2) := by decide +kernel
theorem dX10_week_199 : decode cX10_week 199 = .ok (.aload_n 0, 1) := by decide +kernel
theorem dX10_week_200 : decode cX10_week 200 = .ok (.getfield 60, 3) := by decide +kernel
theorem dX10_week_203 : decode cX10_week 203 = .ok (.iload 5, 2) := by decide +kernel
theorem dX10_week_205 : decode cX10_week 205 = .ok (.iload 6, 2) := by decide +kernel
theorem dX10_week_207 : decode cX10_week 207 = .ok (.aload_n 0, 1) := by decide +kernel
theorem dX10_week_208 : decode cX10_week 208 = .ok (.getfield 60, 3) := by decide +kernel
theorem dX10_week_211 : decode cX10_week 211 = .ok (.iload 5, 2) := by decide +kernel
theorem dX10_week_213 : decode cX10_week 213 = .ok (.iaload, 1) := by decide +kernel
theorem dX10_week_214 : decode cX10_week 214 = .ok (.if_icmp .le 8, 3) := by decide +kernel
theorem dX10_week_217 : decode cX10_week 217 = .ok (.iload 6, 2) := by decide +kernel
theorem dX10_week_219 : decode cX10_week 219 = .ok (.goto 10, 3) := by decide +kernel
theorem dX10_week_222 : decode cX10_week 222 = .ok (.aload_n 0, 1) := by decide +kernel
theorem dX10_week_223 : decode cX10_week 223 = .ok (.getfield 60, 3) := by decide +kernel
theorem dX10_week_226 : decode cX10_week 226 = .ok (.iload 5, 2) := by decide +kernel
theorem dX10_week_228 : decode cX10_week 228 = .ok (.iaload, 1) := by decide +kernel
theorem dX10_week_229 : decode cX10_week 229 = .ok (.iastore, 1) := by decide +kernel
theorem dX10_week_230 : decode cX10_week 230 = .ok (.iinc 5 1, 3) := by decide +kernel
theorem dX10_week_233 : decode cX10_week 233 = .ok (.goto (-71), 3) := by decide +kernel
theorem dX10_week_236 : decode cX10_week 236 = .ok (.iinc 4 1, 3) := by decide +kernel
theorem dX10_week_239 : decode cX10_week 239 = .ok (.goto (-135), 3) := by decide +kernel
theorem dX10_week_242 : decode cX10_week 242 = .ok (.iconst 0, 1) := by decide +kernel
theorem dX10_week_243 : decode cX10_week 243 = .ok (.istore 4, 2) := by decide +kernel
theorem dX10_week_245 : decode cX10_week 245 = .ok (.iload 4, 2) := by decide +kernel
theorem dX10_week_247 : decode cX10_week 247 = .ok (.iload_n 2, 1) := by decide +kernel
theorem dX10_week_248 : decode cX10_week 248 = .ok (.if_icmp .ge 23, 3) := by decide +kernel
theorem dX10_week_251 : decode cX10_week 251 = .ok (.aload_n 0, 1) := by decide +kernel
theorem dX10_week_252 : decode cX10_week 252 = .ok (.getfield 57, 3) := by decide +kernel
theorem dX10_week_255 : decode cX10_week 255 = .ok (.iload 4, 2) := by decide +kernel
theorem dX10_week_257 : decode cX10_week 257 = .ok (.aload_n 0, 1) := by decide +kernel
theorem dX10_week_258 : decode cX10_week 258 = .ok (.getfield 60, 3) := by decide +kernel
theorem dX10_week_261 : decode cX10_week 261 = .ok (.iload 4, 2) := by decide +kernel
theorem dX10_week_263 : decode cX10_week 263 = .ok (.iaload, 1) := by decide +kernel
theorem dX10_week_264 : decode cX10_week 264 = .ok (.iastore, 1) := by decide +kernel
theorem dX10_week_265 : decode cX10_week 265 = .ok (.iinc 4 1, 3) := by decide +kernel
theorem dX10_week_268 : decode cX10_week 268 = .ok (.goto (-23), 3) := by decide +kernel
theorem dX10_week_271 : decode cX10_week 271 = .ok (.iinc 3 1, 3) := by decide +kernel
theorem dX10_week_274 : decode cX10_week 274 = .ok (.goto (-201), 3) := by decide +kernel
theorem dX10_week_277 : decode cX10_week 277 = .ok (.iconst (-1), 1) := by decide +kernel
theorem dX10_week_278 : decode cX10_week 278 = .ok (.istore_n 3, 1) := by decide +kernel
theorem dX10_week_279 : decode cX10_week 279 = .ok (.iconst 0, 1) := by decide +kernel
theorem dX10_week_280 : decode cX10_week 280 = .ok (.istore 4, 2) := by decide +kernel
theorem dX10_week_282 : decode cX10_week 282 = .ok (.iload 4, 2) := by decide +kernel
theorem dX10_week_284 : decode cX10_week 284 = .ok (.iload_n 2, 1) := by decide +kernel
theorem dX10_week_285 : decode cX10_week 285 = .ok (.if_icmp .ge 32, 3) := by decide +kernel
theorem dX10_week_288 : decode cX10_week 288 = .ok (.aload_n 0, 1) := by decide +kernel
theorem dX10_week_289 : decode cX10_week 289 = .ok (.getfield 57, 3) := by decide +kernel
theorem dX10_week_292 : decode cX10_week 292 = .ok (.iload 4, 2) := by decide +kernel
theorem dX10_week_294 : decode cX10_week 294 = .ok (.iaload, 1) := by decide +kernel
theorem dX10_week_295 : decode cX10_week 295 = .ok (.iload_n 3, 1) := by decide +kernel
theorem dX10_week_296 : decode cX10_week 296 = .ok (.if_icmp .le 13, 3) := by decide +kernel
theorem dX10_week_299 : decode cX10_week 299 = .ok (.aload_n 0, 1) := by decide +kernel
theorem dX10_week_300 : decode cX10_week 300 = .ok (.getfield 57, 3) := by decide +kernel
theorem dX10_week_303 : decode cX10_week 303 = .ok (.iload 4, 2) := by decide +kernel
theorem dX10_week_305 : decode cX10_week 305 = .ok (.iaload, 1) := by decide +kernel
theorem dX10_week_306 : decode cX10_week 306 = .ok (.goto 4, 3) := by decide +kernel
theorem dX10_week_309 : decode cX10_week 309 = .ok (.iload_n 3, 1) := by decide +kernel
theorem dX10_week_310 : decode cX10_week 310 = .ok (.istore_n 3, 1) := by decide +kernel
theorem dX10_week_311 : decode cX10_week 311 = .ok (.iinc 4 1, 3) := by decide +kernel
theorem dX10_week_314 : decode cX10_week 314 = .ok (.goto (-32), 3) := by decide +kernel
theorem dX10_week_317 : decode cX10_week 317 = .ok (.iload_n 3, 1) := by decide +kernel
theorem dX10_week_318 : decode cX10_week 318 = .ok (.ireturn, 1) := by decide +kernel
theorem dX10_oftenOf_0 : decode cX10_oftenOf 0 = .ok (.iconst 0, 1) := by decide +kernel
theorem dX10_oftenOf_1 : decode cX10_oftenOf 1 = .ok (.istore_n 3, 1) := by decide +kernel
theorem dX10_oftenOf_2 : decode cX10_oftenOf 2 = .ok (.iconst 0, 1) := by decide +kernel
theorem dX10_oftenOf_3 : decode cX10_oftenOf 3 = .ok (.istore 4, 2) := by decide +kernel
theorem dX10_oftenOf_5 : decode cX10_oftenOf 5 = .ok (.iload 4, 2) := by decide +kernel
theorem dX10_oftenOf_7 : decode cX10_oftenOf 7 = .ok (.aload_n 0, 1) := by decide +kernel
theorem dX10_oftenOf_8 : decode cX10_oftenOf 8 = .ok (.getfield 35, 3) := by decide +kernel
theorem dX10_oftenOf_11 : decode cX10_oftenOf 11 = .ok (.bipush 15, 2) := by decide +kernel
theorem dX10_oftenOf_13 : decode cX10_oftenOf 13 = .ok (.iaload, 1) := by decide +kernel
theorem dX10_oftenOf_14 : decode cX10_oftenOf 14 = .ok (.if_icmp .ge 36, 3) := by decide +kernel
theorem dX10_oftenOf_17 : decode cX10_oftenOf 17 = .ok (.iload_n 3, 1) := by decide +kernel
theorem dX10_oftenOf_18 : decode cX10_oftenOf 18 = .ok (.aload_n 0, 1) := by decide +kernel
theorem dX10_oftenOf_19 : decode cX10_oftenOf 19 = .ok (.getfield 35, 3) := by decide +kernel
theorem dX10_oftenOf_22 : decode cX10_oftenOf 22 = .ok (.bipush 16, 2) := by decide +kernel
theorem dX10_oftenOf_24 : decode cX10_oftenOf 24 = .ok (.bipush 7, 2) := by decide +kernel
theorem dX10_oftenOf_26 : decode cX10_oftenOf 26 = .ok (.iload 4, 2) := by decide +kernel
theorem dX10_oftenOf_28 : decode cX10_oftenOf 28 = .ok (.imul, 1) := by decide +kernel
theorem dX10_oftenOf_29 : decode cX10_oftenOf 29 = .ok (.iadd, 1) := by decide +kernel
theorem dX10_oftenOf_30 : decode cX10_oftenOf 30 = .ok (.iload_n 1, 1) := by decide +kernel
theorem dX10_oftenOf_31 : decode cX10_oftenOf 31 = .ok (.iadd, 1) := by decide +kernel
theorem dX10_oftenOf_32 : decode cX10_oftenOf 32 = .ok (.iaload, 1) := by decide +kernel
theorem dX10_oftenOf_33 : decode cX10_oftenOf 33 = .ok (.iload_n 2, 1) := by decide +kernel
theorem dX10_oftenOf_34 : decode cX10_oftenOf 34 = .ok (.if_icmp .ne 7, 3) := by decide +kernel
theorem dX10_oftenOf_37 : decode cX10_oftenOf 37 = .ok (.iconst 1, 1) := by decide +kernel
theorem dX10_oftenOf_38 : decode cX10_oftenOf 38 = .ok (.goto 4, 3) := by decide +kernel
theorem dX10_oftenOf_41 : decode cX10_oftenOf 41 = .ok (.iconst 0, 1) := by decide +kernel
theorem dX10_oftenOf_42 : decode cX10_oftenOf 42 = .ok (.iadd, 1) := by decide +kernel
theorem dX10_oftenOf_43 : decode cX10_oftenOf 43 = .ok (.istore_n 3, 1) := by decide +kernel
theorem dX10_oftenOf_44 : decode cX10_oftenOf 44 = .ok (.iinc 4 1, 3) := by decide +kernel
theorem dX10_oftenOf_47 : decode cX10_oftenOf 47 = .ok (.goto (-42), 3) := by decide +kernel
theorem dX10_oftenOf_50 : decode cX10_oftenOf 50 = .ok (.iload_n 3, 1) := by decide +kernel
theorem dX10_oftenOf_51 : decode cX10_oftenOf 51 = .ok (.ireturn, 1) := by decide +kernel
theorem dX10_often_0 : decode cX10_often 0 = .ok (.aload_n 0, 1) := by decide +kernel
theorem dX10_often_1 : decode cX10_often 1 = .ok (.iload_n 1, 1) := by decide +kernel
theorem dX10_often_2 : decode cX10_often 2 = .ok (.invokevirtual 166, 3) := by decide +kernel
theorem dX10_often_5 : decode cX10_often 5 = .ok (.ifCond .eq 20, 3) := by decide +kernel
theorem dX10_often_8 : decode cX10_often 8 = .ok (.aload_n 0, 1) := by decide +kernel
theorem dX10_often_9 : decode cX10_often 9 = .ok (.iload_n 2, 1) := by decide +kernel
theorem dX10_often_10 : decode cX10_often 10 = .ok (.invokevirtual 166, 3) := by decide +kernel
theorem dX10_often_13 : decode cX10_often 13 = .ok (.ifCond .eq 12, 3) := by decide +kernel
theorem dX10_often_16 : decode cX10_often 16 = .ok (.aload_n 0, 1) := by decide +kernel
theorem dX10_often_17 : decode cX10_often 17 = .ok (.iload_n 1, 1) := by decide +kernel
theorem dX10_often_18 : decode cX10_often 18 = .ok (.iload_n 2, 1) := by decide +kernel
theorem dX10_often_19 : decode cX10_often 19 = .ok (.invokevirtual 239, 3) := by decide +kernel
theorem dX10_often_22 : decode cX10_often 22 = .ok (.goto 5, 3) := by decide +kernel
theorem dX10_often_25 : decode cX10_often 25 = .ok (.bipush (-2), 2) := by decide +kernel
theorem dX10_often_27 : decode cX10_often 27 = .ok (.ireturn, 1) := by decide +kernel
theorem dX10_tailDown_0 : decode cX10_tailDown 0 = .ok (.lconst 1, 1) := by decide +kernel
theorem dX10_tailDown_1 : decode cX10_tailDown 1 = .ok (.lstore_n 1, 1) := by decide +kernel
theorem dX10_tailDown_2 : decode cX10_tailDown 2 = .ok (.iconst 0, 1) := by decide +kernel
theorem dX10_tailDown_3 : decode cX10_tailDown 3 = .ok (.istore_n 3, 1) := by decide +kernel
theorem dX10_tailDown_4 : decode cX10_tailDown 4 = .ok (.iload_n 3, 1) := by decide +kernel
theorem dX10_tailDown_5 : decode cX10_tailDown 5 = .ok (.aload_n 0, 1) := by decide +kernel
theorem dX10_tailDown_6 : decode cX10_tailDown 6 = .ok (.getfield 35, 3) := by decide +kernel
theorem dX10_tailDown_9 : decode cX10_tailDown 9 = .ok (.bipush 15, 2) := by decide +kernel
theorem dX10_tailDown_11 : decode cX10_tailDown 11 = .ok (.iaload, 1) := by decide +kernel
theorem dX10_tailDown_12 : decode cX10_tailDown 12 = .ok (.if_icmp .ge 17, 3) := by decide +kernel
theorem dX10_tailDown_15 : decode cX10_tailDown 15 = .ok (.lload_n 1, 1) := by decide +kernel
theorem dX10_tailDown_16 : decode cX10_tailDown 16 = .ok (.aload_n 0, 1) := by decide +kernel
theorem dX10_tailDown_17 : decode cX10_tailDown 17 = .ok (.getfield 7, 3) := by decide +kernel
theorem dX10_tailDown_20 : decode cX10_tailDown 20 = .ok (.i2l, 1) := by decide +kernel
theorem dX10_tailDown_21 : decode cX10_tailDown 21 = .ok (.lmul, 1) := by decide +kernel
theorem dX10_tailDown_22 : decode cX10_tailDown 22 = .ok (.lstore_n 1, 1) := by decide +kernel
theorem dX10_tailDown_23 : decode cX10_tailDown 23 = .ok (.iinc 3 1, 3) := by decide +kernel
theorem dX10_tailDown_26 : decode cX10_tailDown 26 = .ok (.goto (-22), 3) := by decide +kernel
theorem dX10_tailDown_29 : decode cX10_tailDown 29 = .ok (.lload_n 1, 1) := by decide +kernel
theorem dX10_tailDown_30 : decode cX10_tailDown 30 = .ok (.lreturn, 1) := by decide +kernel
theorem dX10_tailUp_0 : decode cX10_tailUp 0 = .ok (.aload_n 0, 1) := by decide +kernel
theorem dX10_tailUp_1 : decode cX10_tailUp 1 = .ok (.getfield 35, 3) := by decide +kernel
theorem dX10_tailUp_4 : decode cX10_tailUp 4 = .ok (.bipush 15, 2) := by decide +kernel
theorem dX10_tailUp_6 : decode cX10_tailUp 6 = .ok (.iaload, 1) := by decide +kernel
theorem dX10_tailUp_7 : decode cX10_tailUp 7 = .ok (.istore_n 3, 1) := by decide +kernel
theorem dX10_tailUp_8 : decode cX10_tailUp 8 = .ok (.lconst 0, 1) := by decide +kernel
theorem dX10_tailUp_9 : decode cX10_tailUp 9 = .ok (.lstore 4, 2) := by decide +kernel
theorem dX10_tailUp_11 : decode cX10_tailUp 11 = .ok (.aload_n 0, 1) := by decide +kernel
theorem dX10_tailUp_12 : decode cX10_tailUp 12 = .ok (.iload_n 1, 1) := by decide +kernel
theorem dX10_tailUp_13 : decode cX10_tailUp 13 = .ok (.iload_n 2, 1) := by decide +kernel
theorem dX10_tailUp_14 : decode cX10_tailUp 14 = .ok (.invokevirtual 239, 3) := by decide +kernel
theorem dX10_tailUp_17 : decode cX10_tailUp 17 = .ok (.istore 6, 2) := by decide +kernel
theorem dX10_tailUp_19 : decode cX10_tailUp 19 = .ok (.iload 6, 2) := by decide +kernel
theorem dX10_tailUp_21 : decode cX10_tailUp 21 = .ok (.iload_n 3, 1) := by decide +kernel
theorem dX10_tailUp_22 : decode cX10_tailUp 22 = .ok (.if_icmp .gt 80, 3) := by decide +kernel
theorem dX10_tailUp_25 : decode cX10_tailUp 25 = .ok (.lconst 1, 1) := by decide +kernel
theorem dX10_tailUp_26 : decode cX10_tailUp 26 = .ok (.lstore 7, 2) := by decide +kernel
theorem dX10_tailUp_28 : decode cX10_tailUp 28 = .ok (.iconst 1, 1) := by decide +kernel
theorem dX10_tailUp_29 : decode cX10_tailUp 29 = .ok (.istore 9, 2) := by decide +kernel
theorem dX10_tailUp_31 : decode cX10_tailUp 31 = .ok (.iload 9, 2) := by decide +kernel
theorem dX10_tailUp_33 : decode cX10_tailUp 33 = .ok (.iload 6, 2) := by decide +kernel
theorem dX10_tailUp_35 : decode cX10_tailUp 35 = .ok (.if_icmp .gt 26, 3) := by decide +kernel
theorem dX10_tailUp_38 : decode cX10_tailUp 38 = .ok (.lload 7, 2) := by decide +kernel
theorem dX10_tailUp_40 : decode cX10_tailUp 40 = .ok (.iload_n 3, 1) := by decide +kernel
theorem dX10_tailUp_41 : decode cX10_tailUp 41 = .ok (.iload 6, 2) := by decide +kernel
theorem dX10_tailUp_43 : decode cX10_tailUp 43 = .ok (.isub, 1) := by decide +kernel
theorem dX10_tailUp_44 : decode cX10_tailUp 44 = .ok (.iload 9, 2) := by decide +kernel
theorem dX10_tailUp_46 : decode cX10_tailUp 46 = .ok (.iadd, 1) := by decide +kernel
theorem dX10_tailUp_47 : decode cX10_tailUp 47 = .ok (.i2l, 1) := by decide +kernel
theorem dX10_tailUp_48 : decode cX10_tailUp 48 = .ok (.lmul, 1) := by decide +kernel
theorem dX10_tailUp_49 : decode cX10_tailUp 49 = .ok (.iload 9, 2) := by decide +kernel
theorem dX10_tailUp_51 : decode cX10_tailUp 51 = .ok (.i2l, 1) := by decide +kernel
theorem dX10_tailUp_52 : decode cX10_tailUp 52 = .ok (.ldiv, 1) := by decide +kernel
theorem dX10_tailUp_53 : decode cX10_tailUp 53 = .ok (.lstore 7, 2) := by decide +kernel
theorem dX10_tailUp_55 : decode cX10_tailUp 55 = .ok (.iinc 9 1, 3) := by decide +kernel
theorem dX10_tailUp_58 : decode cX10_tailUp 58 = .ok (.goto (-27), 3) := by decide +kernel
theorem dX10_tailUp_61 : decode cX10_tailUp 61 = .ok (.iload 6, 2) := by decide +kernel
theorem dX10_tailUp_63 : decode cX10_tailUp 63 = .ok (.istore 9, 2) := by decide +kernel
theorem dX10_tailUp_65 : decode cX10_tailUp 65 = .ok (.iload 9, 2) := by decide +kernel
theorem dX10_tailUp_67 : decode cX10_tailUp 67 = .ok (.iload_n 3, 1) := by decide +kernel
theorem dX10_tailUp_68 : decode cX10_tailUp 68 = .ok (.if_icmp .ge 21, 3) := by decide +kernel
theorem dX10_tailUp_71 : decode cX10_tailUp 71 = .ok (.lload 7, 2) := by decide +kernel
theorem dX10_tailUp_73 : decode cX10_tailUp 73 = .ok (.aload_n 0, 1) := by decide +kernel
theorem dX10_tailUp_74 : decode cX10_tailUp 74 = .ok (.getfield 7, 3) := by decide +kernel
theorem dX10_tailUp_77 : decode cX10_tailUp 77 = .ok (.iconst 1, 1) := by decide +kernel
theorem dX10_tailUp_78 : decode cX10_tailUp 78 = .ok (.isub, 1) := by decide +kernel
theorem dX10_tailUp_79 : decode cX10_tailUp 79 = .ok (.i2l, 1) := by decide +kernel
theorem dX10_tailUp_80 : decode cX10_tailUp 80 = .ok (.lmul, 1) := by decide +kernel
theorem dX10_tailUp_81 : decode cX10_tailUp 81 = .ok (.lstore 7, 2) := by decide +kernel
theorem dX10_tailUp_83 : decode cX10_tailUp 83 = .ok (.iinc 9 1, 3) := by decide +kernel
theorem dX10_tailUp_86 : decode cX10_tailUp 86 = .ok (.goto (-21), 3) := by decide +kernel
theorem dX10_tailUp_89 : decode cX10_tailUp 89 = .ok (.lload 4, 2) := by decide +kernel
theorem dX10_tailUp_91 : decode cX10_tailUp 91 = .ok (.lload 7, 2) := by decide +kernel
theorem dX10_tailUp_93 : decode cX10_tailUp 93 = .ok (.ladd, 1) := by decide +kernel
theorem dX10_tailUp_94 : decode cX10_tailUp 94 = .ok (.lstore 4, 2) := by decide +kernel
theorem dX10_tailUp_96 : decode cX10_tailUp 96 = .ok (.iinc 6 1, 3) := by decide +kernel
