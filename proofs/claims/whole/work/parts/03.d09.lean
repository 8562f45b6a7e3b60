theorem dX10_numberOf_21 : decode cX10_numberOf 21 = .ok (.aload_n 0, 1) := by decide +kernel
theorem dX10_numberOf_22 : decode cX10_numberOf 22 = .ok (.getfield 7, 3) := by decide +kernel
theorem dX10_numberOf_25 : decode cX10_numberOf 25 = .ok (.if_icmp .ge 33, 3) := by decide +kernel
theorem dX10_numberOf_28 : decode cX10_numberOf 28 = .ok (.iload_n 3, 1) := by decide +kernel
theorem dX10_numberOf_29 : decode cX10_numberOf 29 = .ok (.aload_n 0, 1) := by decide +kernel
theorem dX10_numberOf_30 : decode cX10_numberOf 30 = .ok (.getfield 45, 3) := by decide +kernel
theorem dX10_numberOf_33 : decode cX10_numberOf 33 = .ok (.iload 4, 2) := by decide +kernel
theorem dX10_numberOf_35 : decode cX10_numberOf 35 = .ok (.iaload, 1) := by decide +kernel
theorem dX10_numberOf_36 : decode cX10_numberOf 36 = .ok (.aload_n 0, 1) := by decide +kernel
theorem dX10_numberOf_37 : decode cX10_numberOf 37 = .ok (.getfield 45, 3) := by decide +kernel
theorem dX10_numberOf_40 : decode cX10_numberOf 40 = .ok (.iload_n 2, 1) := by decide +kernel
theorem dX10_numberOf_41 : decode cX10_numberOf 41 = .ok (.iaload, 1) := by decide +kernel
theorem dX10_numberOf_42 : decode cX10_numberOf 42 = .ok (.if_icmp .ge 7, 3) := by decide +kernel
theorem dX10_numberOf_45 : decode cX10_numberOf 45 = .ok (.iconst 1, 1) := by decide +kernel
theorem dX10_numberOf_46 : decode cX10_numberOf 46 = .ok (.goto 4, 3) := by decide +kernel
theorem dX10_numberOf_49 : decode cX10_numberOf 49 = .ok (.iconst 0, 1) := by decide +kernel
theorem dX10_numberOf_50 : decode cX10_numberOf 50 = .ok (.iadd, 1) := by decide +kernel
theorem dX10_numberOf_51 : decode cX10_numberOf 51 = .ok (.istore_n 3, 1) := by decide +kernel
theorem dX10_numberOf_52 : decode cX10_numberOf 52 = .ok (.iinc 4 1, 3) := by decide +kernel
theorem dX10_numberOf_55 : decode cX10_numberOf 55 = .ok (.goto (-36), 3) := by decide +kernel
theorem dX10_numberOf_58 : decode cX10_numberOf 58 = .ok (.iload_n 1, 1) := by decide +kernel
theorem dX10_numberOf_59 : decode cX10_numberOf 59 = .ok (.iload_n 3, 1) := by decide +kernel
theorem dX10_numberOf_60 : decode cX10_numberOf 60 = .ok (.aload_n 0, 1) := by decide +kernel
theorem dX10_numberOf_61 : decode cX10_numberOf 61 = .ok (.getfield 7, 3) := by decide +kernel
theorem dX10_numberOf_64 : decode cX10_numberOf 64 = .ok (.iconst 1, 1) := by decide +kernel
theorem dX10_numberOf_65 : decode cX10_numberOf 65 = .ok (.isub, 1) := by decide +kernel
theorem dX10_numberOf_66 : decode cX10_numberOf 66 = .ok (.iload_n 2, 1) := by decide +kernel
theorem dX10_numberOf_67 : decode cX10_numberOf 67 = .ok (.isub, 1) := by decide +kernel
theorem dX10_numberOf_68 : decode cX10_numberOf 68 = .ok (.invokestatic 173, 3) := by decide +kernel
theorem dX10_numberOf_71 : decode cX10_numberOf 71 = .ok (.imul, 1) := by decide +kernel
theorem dX10_numberOf_72 : decode cX10_numberOf 72 = .ok (.iadd, 1) := by decide +kernel
theorem dX10_numberOf_73 : decode cX10_numberOf 73 = .ok (.istore_n 1, 1) := by decide +kernel
theorem dX10_numberOf_74 : decode cX10_numberOf 74 = .ok (.iinc 2 1, 3) := by decide +kernel
theorem dX10_numberOf_77 : decode cX10_numberOf 77 = .ok (.goto (-73), 3) := by decide +kernel
theorem dX10_numberOf_80 : decode cX10_numberOf 80 = .ok (.iload_n 1, 1) := by decide +kernel
theorem dX10_numberOf_81 : decode cX10_numberOf 81 = .ok (.ireturn, 1) := by decide +kernel
theorem dX10_isLawful_0 : decode cX10_isLawful 0 = .ok (.iconst 1, 1) := by decide +kernel
theorem dX10_isLawful_1 : decode cX10_isLawful 1 = .ok (.istore_n 1, 1) := by decide +kernel
theorem dX10_isLawful_2 : decode cX10_isLawful 2 = .ok (.iconst 0, 1) := by decide +kernel
theorem dX10_isLawful_3 : decode cX10_isLawful 3 = .ok (.istore_n 2, 1) := by decide +kernel
theorem dX10_isLawful_4 : decode cX10_isLawful 4 = .ok (.iload_n 2, 1) := by decide +kernel
theorem dX10_isLawful_5 : decode cX10_isLawful 5 = .ok (.aload_n 0, 1) := by decide +kernel
theorem dX10_isLawful_6 : decode cX10_isLawful 6 = .ok (.getfield 7, 3) := by decide +kernel
theorem dX10_isLawful_9 : decode cX10_isLawful 9 = .ok (.if_icmp .ge 33, 3) := by decide +kernel
theorem dX10_isLawful_12 : decode cX10_isLawful 12 = .ok (.iload_n 1, 1) := by decide +kernel
theorem dX10_isLawful_13 : decode cX10_isLawful 13 = .ok (.ifCond .eq 21, 3) := by decide +kernel
theorem dX10_isLawful_16 : decode cX10_isLawful 16 = .ok (.aload_n 0, 1) := by decide +kernel
theorem dX10_isLawful_17 : decode cX10_isLawful 17 = .ok (.iload_n 2, 1) := by decide +kernel
theorem dX10_isLawful_18 : decode cX10_isLawful 18 = .ok (.aload_n 0, 1) := by decide +kernel
theorem dX10_isLawful_19 : decode cX10_isLawful 19 = .ok (.getfield 45, 3) := by decide +kernel
theorem dX10_isLawful_22 : decode cX10_isLawful 22 = .ok (.iload_n 2, 1) := by decide +kernel
theorem dX10_isLawful_23 : decode cX10_isLawful 23 = .ok (.iaload, 1) := by decide +kernel
theorem dX10_isLawful_24 : decode cX10_isLawful 24 = .ok (.invokevirtual 169, 3) := by decide +kernel
theorem dX10_isLawful_27 : decode cX10_isLawful 27 = .ok (.ifCond .eq 7, 3) := by decide +kernel
theorem dX10_isLawful_30 : decode cX10_isLawful 30 = .ok (.iconst 1, 1) := by decide +kernel
theorem dX10_isLawful_31 : decode cX10_isLawful 31 = .ok (.goto 4, 3) := by decide +kernel
theorem dX10_isLawful_34 : decode cX10_isLawful 34 = .ok (.iconst 0, 1) := by decide +kernel
theorem dX10_isLawful_35 : decode cX10_isLawful 35 = .ok (.istore_n 1, 1) := by decide +kernel
theorem dX10_isLawful_36 : decode cX10_isLawful 36 = .ok (.iinc 2 1, 3) := by decide +kernel
theorem dX10_isLawful_39 : decode cX10_isLawful 39 = .ok (.goto (-35), 3) := by decide +kernel
theorem dX10_isLawful_42 : decode cX10_isLawful 42 = .ok (.iload_n 1, 1) := by decide +kernel
theorem dX10_isLawful_43 : decode cX10_isLawful 43 = .ok (.ireturn, 1) := by decide +kernel
theorem dX10_putToday_0 : decode cX10_putToday 0 = .ok (.aload_n 0, 1) := by decide +kernel
theorem dX10_putToday_1 : decode cX10_putToday 1 = .ok (.getfield 35, 3) := by decide +kernel
theorem dX10_putToday_4 : decode cX10_putToday 4 = .ok (.iconst 0, 1) := by decide +kernel
theorem dX10_putToday_5 : decode cX10_putToday 5 = .ok (.iconst 1, 1) := by decide +kernel
theorem dX10_putToday_6 : decode cX10_putToday 6 = .ok (.iastore, 1) := by decide +kernel
theorem dX10_putToday_7 : decode cX10_putToday 7 = .ok (.iconst 0, 1) := by decide +kernel
theorem dX10_putToday_8 : decode cX10_putToday 8 = .ok (.istore_n 1, 1) := by decide +kernel
theorem dX10_putToday_9 : decode cX10_putToday 9 = .ok (.iload_n 1, 1) := by decide +kernel
theorem dX10_putToday_10 : decode cX10_putToday 10 = .ok (.aload_n 0, 1) := by decide +kernel
theorem dX10_putToday_11 : decode cX10_putToday 11 = .ok (.getfield 7, 3) := by decide +kernel
theorem dX10_putToday_14 : decode cX10_putToday 14 = .ok (.if_icmp .ge 23, 3) := by decide +kernel
theorem dX10_putToday_17 : decode cX10_putToday 17 = .ok (.aload_n 0, 1) := by decide +kernel
theorem dX10_putToday_18 : decode cX10_putToday 18 = .ok (.getfield 35, 3) := by decide +kernel
theorem dX10_putToday_21 : decode cX10_putToday 21 = .ok (.iconst 1, 1) := by decide +kernel
theorem dX10_putToday_22 : decode cX10_putToday 22 = .ok (.iload_n 1, 1) := by decide +kernel
theorem dX10_putToday_23 : decode cX10_putToday 23 = .ok (.iadd, 1) := by decide +kernel
theorem dX10_putToday_24 : decode cX10_putToday 24 = .ok (.aload_n 0, 1) := by decide +kernel
theorem dX10_putToday_25 : decode cX10_putToday 25 = .ok (.getfield 45, 3) := by decide +kernel
theorem dX10_putToday_28 : decode cX10_putToday 28 = .ok (.iload_n 1, 1) := by decide +kernel
theorem dX10_putToday_29 : decode cX10_putToday 29 = .ok (.iaload, 1) := by decide +kernel
theorem dX10_putToday_30 : decode cX10_putToday 30 = .ok (.iastore, 1) := by decide +kernel
theorem dX10_putToday_31 : decode cX10_putToday 31 = .ok (.iinc 1 1, 3) := by decide +kernel
theorem dX10_putToday_34 : decode cX10_putToday 34 = .ok (.goto (-25), 3) := by decide +kernel
theorem dX10_putToday_37 : decode cX10_putToday 37 = .ok (.return_, 1) := by decide +kernel
theorem dX10_takeToday_0 : decode cX10_takeToday 0 = .ok (.iconst 0, 1) := by decide +kernel
theorem dX10_takeToday_1 : decode cX10_takeToday 1 = .ok (.istore_n 1, 1) := by decide +kernel
theorem dX10_takeToday_2 : decode cX10_takeToday 2 = .ok (.iload_n 1, 1) := by decide +kernel
theorem dX10_takeToday_3 : decode cX10_takeToday 3 = .ok (.aload_n 0, 1) := by decide +kernel
theorem dX10_takeToday_4 : decode cX10_takeToday 4 = .ok (.getfield 7, 3) := by decide +kernel
theorem dX10_takeToday_7 : decode cX10_takeToday 7 = .ok (.if_icmp .ge 23, 3) := by decide +kernel
theorem dX10_takeToday_10 : decode cX10_takeToday 10 = .ok (.aload_n 0, 1) := by decide +kernel
theorem dX10_takeToday_11 : decode cX10_takeToday 11 = .ok (.getfield 45, 3) := by decide +kernel
theorem dX10_takeToday_14 : decode cX10_takeToday 14 = .ok (.iload_n 1, 1) := by decide +kernel
theorem dX10_takeToday_15 : decode cX10_takeToday 15 = .ok (.aload_n 0, 1) := by decide +kernel
theorem dX10_takeToday_16 : decode cX10_takeToday 16 = .ok (.getfield 35, 3) := by decide +kernel
theorem dX10_takeToday_19 : decode cX10_takeToday 19 = .ok (.iconst 1, 1) := by decide +kernel
theorem dX10_takeToday_20 : decode cX10_takeToday 20 = .ok (.iload_n 1, 1) := by decide +kernel
theorem dX10_takeToday_21 : decode cX10_takeToday 21 = .ok (.iadd, 1) := by decide +kernel
theorem dX10_takeToday_22 : decode cX10_takeToday 22 = .ok (.iaload, 1) := by decide +kernel
theorem dX10_takeToday_23 : decode cX10_takeToday 23 = .ok (.iastore, 1) := by decide +kernel
theorem dX10_takeToday_24 : decode cX10_takeToday 24 = .ok (.iinc 1 1, 3) := by decide +kernel
theorem dX10_takeToday_27 : decode cX10_takeToday 27 = .ok (.goto (-25), 3) := by decide +kernel
theorem dX10_takeToday_30 : decode cX10_takeToday 30 = .ok (.return_, 1) := by decide +kernel
theorem dX10_lay_0 : decode cX10_lay 0 = .ok (.iload_n 1, 1) := by decide +kernel
theorem dX10_lay_1 : decode cX10_lay 1 = .ok (.iconst 0, 1) := by decide +kernel
theorem dX10_lay_2 : decode cX10_lay 2 = .ok (.aload_n 0, 1) := by decide +kernel
theorem dX10_lay_3 : decode cX10_lay 3 = .ok (.getfield 7, 3) := by decide +kernel
theorem dX10_lay_6 : decode cX10_lay 6 = .ok (.invokestatic 173, 3) := by decide +kernel
theorem dX10_lay_9 : decode cX10_lay 9 = .ok (.iconst 1, 1) := by decide +kernel
theorem dX10_lay_10 : decode cX10_lay 10 = .ok (.isub, 1) := by decide +kernel
theorem dX10_lay_11 : decode cX10_lay 11 = .ok (.invokestatic 69, 3) := by decide +kernel
theorem dX10_lay_14 : decode cX10_lay 14 = .ok (.ifCond .ne 6, 3) := by decide +kernel
theorem dX10_lay_17 : decode cX10_lay 17 = .ok (.bipush (-3), 2) := by decide +kernel
theorem dX10_lay_19 : decode cX10_lay 19 = .ok (.ireturn, 1) := by decide +kernel
theorem dX10_lay_20 : decode cX10_lay 20 = .ok (.aload_n 0, 1) := by decide +kernel
theorem dX10_lay_21 : decode cX10_lay 21 = .ok (.iload_n 1, 1) := by decide +kernel
theorem dX10_lay_22 : decode cX10_lay 22 = .ok (.invokevirtual 177, 3) := by decide +kernel
theorem dX10_lay_25 : decode cX10_lay 25 = .ok (.aload_n 0, 1) := by decide +kernel
theorem dX10_lay_26 : decode cX10_lay 26 = .ok (.invokevirtual 180, 3) := by decide +kernel
theorem dX10_lay_29 : decode cX10_lay 29 = .ok (.ifCond .ne 6, 3) := by decide +kernel
theorem dX10_lay_32 : decode cX10_lay 32 = .ok (.bipush (-4), 2) := by decide +kernel
theorem dX10_lay_34 : decode cX10_lay 34 = .ok (.ireturn, 1) := by decide +kernel
theorem dX10_lay_35 : decode cX10_lay 35 = .ok (.aload_n 0, 1) := by decide +kernel
theorem dX10_lay_36 : decode cX10_lay 36 = .ok (.invokevirtual 183, 3) := by decide +kernel
theorem dX10_lay_39 : decode cX10_lay 39 = .ok (.iconst 1, 1) := by decide +kernel
theorem dX10_lay_40 : decode cX10_lay 40 = .ok (.ireturn, 1) := by decide +kernel
theorem dX10_draw_0 : decode cX10_draw 0 = .ok (.iload_n 1, 1) := by decide +kernel
theorem dX10_draw_1 : decode cX10_draw 1 = .ok (.iconst 1, 1) := by decide +kernel
theorem dX10_draw_2 : decode cX10_draw 2 = .ok (.sipush 9999, 3) := by decide +kernel
theorem dX10_draw_5 : decode cX10_draw 5 = .ok (.invokestatic 69, 3) := by decide +kernel
theorem dX10_draw_8 : decode cX10_draw 8 = .ok (.ifCond .ne 6, 3) := by decide +kernel
theorem dX10_draw_11 : decode cX10_draw 11 = .ok (.bipush (-3), 2) := by decide +kernel
theorem dX10_draw_13 : decode cX10_draw 13 = .ok (.ireturn, 1) := by decide +kernel
theorem dX10_draw_14 : decode cX10_draw 14 = .ok (.iload_n 1, 1) := by decide +kernel
theorem dX10_draw_15 : decode cX10_draw 15 = .ok (.istore_n 2, 1) := by decide +kernel
theorem dX10_draw_16 : decode cX10_draw 16 = .ok (.iconst 1, 1) := by decide +kernel
theorem dX10_draw_17 : decode cX10_draw 17 = .ok (.istore_n 3, 1) := by decide +kernel
theorem dX10_draw_18 : decode cX10_draw 18 = .ok (.iload_n 3, 1) := by decide +kernel
theorem dX10_draw_19 : decode cX10_draw 19 = .ok (.bipush 50, 2) := by decide +kernel
theorem dX10_draw_21 : decode cX10_draw 21 = .ok (.if_icmp .gt 117, 3) := by decide +kernel
theorem dX10_draw_24 : decode cX10_draw 24 = .ok (.iconst 0, 1) := by decide +kernel
theorem dX10_draw_25 : decode cX10_draw 25 = .ok (.istore 4, 2) := by decide +kernel
theorem dX10_draw_27 : decode cX10_draw 27 = .ok (.iload 4, 2) := by decide +kernel
theorem dX10_draw_29 : decode cX10_draw 29 = .ok (.aload_n 0, 1) := by decide +kernel
theorem dX10_draw_30 : decode cX10_draw 30 = .ok (.getfield 7, 3) := by decide +kernel
theorem dX10_draw_33 : decode cX10_draw 33 = .ok (.if_icmp .ge 18, 3) := by decide +kernel
theorem dX10_draw_36 : decode cX10_draw 36 = .ok (.aload_n 0, 1) := by decide +kernel
theorem dX10_draw_37 : decode cX10_draw 37 = .ok (.getfield 45, 3) := by decide +kernel
theorem dX10_draw_40 : decode cX10_draw 40 = .ok (.iload 4, 2) := by decide +kernel
theorem dX10_draw_42 : decode cX10_draw 42 = .ok (.iload 4, 2) := by decide +kernel
theorem dX10_draw_44 : decode cX10_draw 44 = .ok (.iastore, 1) := by decide +kernel
theorem dX10_draw_45 : decode cX10_draw 45 = .ok (.iinc 4 1, 3) := by decide +kernel
theorem dX10_draw_48 : decode cX10_draw 48 = .ok (.goto (-21), 3) := by decide +kernel
theorem dX10_draw_51 : decode cX10_draw 51 = .ok (.aload_n 0, 1) := by decide +kernel
theorem dX10_draw_52 : decode cX10_draw 52 = .ok (.getfield 7, 3) := by decide +kernel
theorem dX10_draw_55 : decode cX10_draw 55 = .ok (.iconst 1, 1) := by decide +kernel
theorem dX10_draw_56 : decode cX10_draw 56 = .ok (.isub, 1) := by decide +kernel
theorem dX10_draw_57 : decode cX10_draw 57 = .ok (.istore 4, 2) := by decide +kernel
theorem dX10_draw_59 : decode cX10_draw 59 = .ok (.iload 4, 2) := by decide +kernel
theorem dX10_draw_61 : decode cX10_draw 61 = .ok (.ifCond .le 58, 3) := by decide +kernel
theorem dX10_draw_64 : decode cX10_draw 64 = .ok (.sipush 16807, 3) := by decide +kernel
theorem dX10_draw_67 : decode cX10_draw 67 = .ok (.iload_n 2, 1) := by decide +kernel
theorem dX10_draw_68 : decode cX10_draw 68 = .ok (.imul, 1) := by decide +kernel
theorem dX10_draw_69 : decode cX10_draw 69 = .ok (.ldc 186, 2) := by decide +kernel
theorem dX10_draw_71 : decode cX10_draw 71 = .ok (.irem, 1) := by decide +kernel
theorem dX10_draw_72 : decode cX10_draw 72 = .ok (.istore_n 2, 1) := by decide +kernel
theorem dX10_draw_73 : decode cX10_draw 73 = .ok (.aload_n 0, 1) := by decide +kernel
theorem dX10_draw_74 : decode cX10_draw 74 = .ok (.getfield 45, 3) := by decide +kernel
theorem dX10_draw_77 : decode cX10_draw 77 = .ok (.iload 4, 2) := by decide +kernel
theorem dX10_draw_79 : decode cX10_draw 79 = .ok (.iaload, 1) := by decide +kernel
theorem dX10_draw_80 : decode cX10_draw 80 = .ok (.istore 5, 2) := by decide +kernel
theorem dX10_draw_82 : decode cX10_draw 82 = .ok (.aload_n 0, 1) := by decide +kernel
theorem dX10_draw_83 : decode cX10_draw 83 = .ok (.getfield 45, 3) := by decide +kernel
theorem dX10_draw_86 : decode cX10_draw 86 = .ok (.iload 4, 2) := by decide +kernel
theorem dX10_draw_88 : decode cX10_draw 88 = .ok (.aload_n 0, 1) := by decide +kernel
theorem dX10_draw_89 : decode cX10_draw 89 = .ok (.getfield 45, 3) := by decide +kernel
theorem dX10_draw_92 : decode cX10_draw 92 = .ok (.iload_n 2, 1) := by decide +kernel
theorem dX10_draw_93 : decode cX10_draw 93 = .ok (.iload 4, 2) := by decide +kernel
theorem dX10_draw_95 : decode cX10_draw 95 = .ok (.iconst 1, 1) := by decide +kernel
theorem dX10_draw_96 : decode cX10_draw 96 = .ok (.iadd, 1) := by decide +kernel
theorem dX10_draw_97 : decode cX10_draw 97 = .ok (.irem, 1) := by decide +kernel
theorem dX10_draw_98 : decode cX10_draw 98 = .ok (.iaload, 1) := by decide +kernel
theorem dX10_draw_99 : decode cX10_draw 99 = .ok (.iastore, 1) := by decide +kernel
theorem dX10_draw_100 : decode cX10_draw 100 = .ok (.aload_n 0, 1) := by decide +kernel
theorem dX10_draw_101 : decode cX10_draw 101 = .ok (.getfield 45, 3) := by decide +kernel
theorem dX10_draw_104 : decode cX10_draw 104 = .ok (.iload_n 2, 1) := by decide +kernel
theorem dX10_draw_105 : decode cX10_draw 105 = .ok (.iload 4, 2) := by decide +kernel
theorem dX10_draw_107 : decode cX10_draw 107 = .ok (.iconst 1, 1) := by decide +kernel
theorem dX10_draw_108 : decode cX10_draw 108 = .ok (.iadd, 1) := by decide +kernel
theorem dX10_draw_109 : decode cX10_draw 109 = .ok (.irem, 1) := by decide +kernel
theorem dX10_draw_110 : decode cX10_draw 110 = .ok (.iload 5, 2) := by decide +kernel
theorem dX10_draw_112 : decode cX10_draw 112 = .ok (.iastore, 1) := by decide +kernel
theorem dX10_draw_113 : decode cX10_draw 113 = .ok (.iinc 4 (-1), 3) := by decide +kernel
theorem dX10_draw_116 : decode cX10_draw 116 = .ok (.goto (-57), 3) := by decide +kernel
theorem dX10_draw_119 : decode cX10_draw 119 = .ok (.aload_n 0, 1) := by decide +kernel
theorem dX10_draw_120 : decode cX10_draw 120 = .ok (.invokevirtual 180, 3) := by decide +kernel
theorem dX10_draw_123 : decode cX10_draw 123 = .ok (.ifCond .eq 9, 3) := by decide +kernel
theorem dX10_draw_126 : decode cX10_draw 126 = .ok (.aload_n 0, 1) := by decide +kernel
theorem dX10_draw_127 : decode cX10_draw 127 = .ok (.invokevirtual 183, 3) := by decide +kernel
theorem dX10_draw_130 : decode cX10_draw 130 = .ok (.iload_n 3, 1) := by decide +kernel
theorem dX10_draw_131 : decode cX10_draw 131 = .ok (.ireturn, 1) := by decide +kernel
theorem dX10_draw_132 : decode cX10_draw 132 = .ok (.iinc 3 1, 3) := by decide +kernel
theorem dX10_draw_135 : decode cX10_draw 135 = .ok (.goto (-117), 3) := by decide +kernel
theorem dX10_draw_138 : decode cX10_draw 138 = .ok (.bipush (-4), 2) := by decide +kernel
theorem dX10_draw_140 : decode cX10_draw 140 = .ok (.ireturn, 1) := by decide +kernel
theorem dX10_has_0 : decode cX10_has 0 = .ok (.aload_n 0, 1) := by decide +kernel
theorem dX10_has_1 : decode cX10_has 1 = .ok (.iload_n 1, 1) := by decide +kernel
theorem dX10_has_2 : decode cX10_has 2 = .ok (.invokevirtual 166, 3) := by decide +kernel
theorem dX10_has_5 : decode cX10_has 5 = .ok (.ifCond .ne 6, 3) := by decide +kernel
theorem dX10_has_8 : decode cX10_has 8 = .ok (.bipush (-2), 2) := by decide +kernel
theorem dX10_has_10 : decode cX10_has 10 = .ok (.ireturn, 1) := by decide +kernel
theorem dX10_has_11 : decode cX10_has 11 = .ok (.iload_n 2, 1) := by decide +kernel
theorem dX10_has_12 : decode cX10_has 12 = .ok (.ifCond .ne 28, 3) := by decide +kernel
theorem dX10_has_15 : decode cX10_has 15 = .ok (.aload_n 0, 1) := by decide +kernel
theorem dX10_has_16 : decode cX10_has 16 = .ok (.getfield 35, 3) := by decide +kernel
theorem dX10_has_19 : decode cX10_has 19 = .ok (.iconst 0, 1) := by decide +kernel
theorem dX10_has_20 : decode cX10_has 20 = .ok (.iaload, 1) := by decide +kernel
theorem dX10_has_21 : decode cX10_has 21 = .ok (.iconst 1, 1) := by decide +kernel
theorem dX10_has_22 : decode cX10_has 22 = .ok (.if_icmp .ne 14, 3) := by decide +kernel
theorem dX10_has_25 : decode cX10_has 25 = .ok (.aload_n 0, 1) := by decide +kernel
theorem dX10_has_26 : decode cX10_has 26 = .ok (.getfield 35, 3) := by decide +kernel
theorem dX10_has_29 : decode cX10_has 29 = .ok (.iconst 1, 1) := by decide +kernel
theorem dX10_has_30 : decode cX10_has 30 = .ok (.iload_n 1, 1) := by decide +kernel
theorem dX10_has_31 : decode cX10_has 31 = .ok (.iadd, 1) := by decide +kernel
theorem dX10_has_32 : decode cX10_has 32 = .ok (.iaload, 1) := by decide +kernel
theorem dX10_has_33 : decode cX10_has 33 = .ok (.goto 26, 3) := by decide +kernel
theorem dX10_has_36 : decode cX10_has 36 = .ok (.iconst (-1), 1) := by decide +kernel
theorem dX10_has_37 : decode cX10_has 37 = .ok (.goto 22, 3) := by decide +kernel
theorem dX10_has_40 : decode cX10_has 40 = .ok (.iload_n 2, 1) := by decide +kernel
theorem dX10_has_41 : decode cX10_has 41 = .ok (.iconst 1, 1) := by decide +kernel
theorem dX10_has_42 : decode cX10_has 42 = .ok (.if_icmp .ne 15, 3) := by decide +kernel
theorem dX10_has_45 : decode cX10_has 45 = .ok (.aload_n 0, 1) := by decide +kernel
theorem dX10_has_46 : decode cX10_has 46 = .ok (.getfield 35, 3) := by decide +kernel
theorem dX10_has_49 : decode cX10_has 49 = .ok (.bipush 8, 2) := by decide +kernel
theorem dX10_has_51 : decode cX10_has 51 = .ok (.iload_n 1, 1) := by decide +kernel
theorem dX10_has_52 : decode cX10_has 52 = .ok (.iadd, 1) := by decide +kernel
theorem dX10_has_53 : decode cX10_has 53 = .ok (.iaload, 1) := by decide +kernel
theorem dX10_has_54 : decode cX10_has 54 = .ok (.goto 5, 3) := by decide +kernel
theorem dX10_has_57 : decode cX10_has 57 = .ok (.bipush (-3), 2) := by decide +kernel
theorem dX10_has_59 : decode cX10_has 59 = .ok (.ireturn, 1) := by decide +kernel
theorem dX10_likesMore_0 : decode cX10_likesMore 0 = .ok (.aload_n 0, 1) := by decide +kernel
theorem dX10_likesMore_1 : decode cX10_likesMore 1 = .ok (.iload_n 1, 1) := by decide +kernel
theorem dX10_likesMore_2 : decode cX10_likesMore 2 = .ok (.iload_n 2, 1) := by decide +kernel
theorem dX10_likesMore_3 : decode cX10_likesMore 3 = .ok (.invokevirtual 169, 3) := by decide +kernel
theorem dX10_likesMore_6 : decode cX10_likesMore 6 = .ok (.ifCond .eq 37, 3) := by decide +kernel
theorem dX10_likesMore_9 : decode cX10_likesMore 9 = .ok (.aload_n 0, 1) := by decide +kernel
theorem dX10_likesMore_10 : decode cX10_likesMore 10 = .ok (.getfield 20, 3) := by decide +kernel
theorem dX10_likesMore_13 : decode cX10_likesMore 13 = .ok (.bipush 7, 2) := by decide +kernel
theorem dX10_likesMore_15 : decode cX10_likesMore 15 = .ok (.iload_n 1, 1) := by decide +kernel
theorem dX10_likesMore_16 : decode cX10_likesMore 16 = .ok (.imul, 1) := by decide +kernel
theorem dX10_likesMore_17 : decode cX10_likesMore 17 = .ok (.iload_n 2, 1) := by decide +kernel
theorem dX10_likesMore_18 : decode cX10_likesMore 18 = .ok (.iadd, 1) := by decide +kernel
theorem dX10_likesMore_19 : decode cX10_likesMore 19 = .ok (.iaload, 1) := by decide +kernel
theorem dX10_likesMore_20 : decode cX10_likesMore 20 = .ok (.aload_n 0, 1) := by decide +kernel
theorem dX10_likesMore_21 : decode cX10_likesMore 21 = .ok (.getfield 20, 3) := by decide +kernel
theorem dX10_likesMore_24 : decode cX10_likesMore 24 = .ok (.bipush 7, 2) := by decide +kernel
theorem dX10_likesMore_26 : decode cX10_likesMore 26 = .ok (.iload_n 1, 1) := by decide +kernel
theorem dX10_likesMore_27 : decode cX10_likesMore 27 = .ok (.imul, 1) := by decide +kernel
theorem dX10_likesMore_28 : decode cX10_likesMore 28 = .ok (.aload_n 0, 1) := by decide +kernel
theorem dX10_likesMore_29 : decode cX10_likesMore 29 = .ok (.getfield 45, 3) := by decide +kernel
theorem dX10_likesMore_32 : decode cX10_likesMore 32 = .ok (.iload_n 1, 1) := by decide +kernel
theorem dX10_likesMore_33 : decode cX10_likesMore 33 = .ok (.iaload, 1) := by decide +kernel
theorem dX10_likesMore_34 : decode cX10_likesMore 34 = .ok (.iadd, 1) := by decide +kernel
theorem dX10_likesMore_35 : decode cX10_likesMore 35 = .ok (.iaload, 1) := by decide +kernel
theorem dX10_likesMore_36 : decode cX10_likesMore 36 = .ok (.if_icmp .le 7, 3) := by decide +kernel
theorem dX10_likesMore_39 : decode cX10_likesMore 39 = .ok (.iconst 1, 1) := by decide +kernel
theorem dX10_likesMore_40 : decode cX10_likesMore 40 = .ok (.goto 4, 3) := by decide +kernel
theorem dX10_likesMore_43 : decode cX10_likesMore 43 = .ok (.iconst 0, 1) := by decide +kernel
theorem dX10_likesMore_44 : decode cX10_likesMore 44 = .ok (.ireturn, 1) := by decide +kernel
theorem dX10_isWanted_0 : decode cX10_isWanted 0 = .ok (.aload_n 0, 1) := by decide +kernel
theorem dX10_isWanted_1 : decode cX10_isWanted 1 = .ok (.iload_n 1, 1) := by decide +kernel
theorem dX10_isWanted_2 : decode cX10_isWanted 2 = .ok (.aload_n 0, 1) := by decide +kernel
theorem dX10_isWanted_3 : decode cX10_isWanted 3 = .ok (.getfield 45, 3) := by decide +kernel
theorem dX10_isWanted_6 : decode cX10_isWanted 6 = .ok (.iload_n 2, 1) := by decide +kernel
theorem dX10_isWanted_7 : decode cX10_isWanted 7 = .ok (.iaload, 1) := by decide +kernel
theorem dX10_isWanted_8 : decode cX10_isWanted 8 = .ok (.invokevirtual 187, 3) := by decide +kernel
theorem dX10_isWanted_11 : decode cX10_isWanted 11 = .ok (.ifCond .eq 57, 3) := by decide +kernel
theorem dX10_isWanted_14 : decode cX10_isWanted 14 = .ok (.iload_n 3, 1) := by decide +kernel
theorem dX10_isWanted_15 : decode cX10_isWanted 15 = .ok (.iconst (-1), 1) := by decide +kernel
theorem dX10_isWanted_16 : decode cX10_isWanted 16 = .ok (.if_icmp .ne 20, 3) := by decide +kernel
theorem dX10_isWanted_19 : decode cX10_isWanted 19 = .ok (.aload_n 0, 1) := by decide +kernel
theorem dX10_isWanted_20 : decode cX10_isWanted 20 = .ok (.iload_n 2, 1) := by decide +kernel
theorem dX10_isWanted_21 : decode cX10_isWanted 21 = .ok (.aload_n 0, 1) := by decide +kernel
theorem dX10_isWanted_22 : decode cX10_isWanted 22 = .ok (.getfield 45, 3) := by decide +kernel
theorem dX10_isWanted_25 : decode cX10_isWanted 25 = .ok (.iload_n 1, 1) := by decide +kernel
theorem dX10_isWanted_26 : decode cX10_isWanted 26 = .ok (.iaload, 1) := by decide +kernel
theorem dX10_isWanted_27 : decode cX10_isWanted 27 = .ok (.invokevirtual 187, 3) := by decide +kernel
theorem dX10_isWanted_30 : decode cX10_isWanted 30 = .ok (.ifCond .eq 38, 3) := by decide +kernel
theorem dX10_isWanted_33 : decode cX10_isWanted 33 = .ok (.goto 31, 3) := by decide +kernel
theorem dX10_isWanted_36 : decode cX10_isWanted 36 = .ok (.aload_n 0, 1) := by decide +kernel
theorem dX10_isWanted_37 : decode cX10_isWanted 37 = .ok (.iload_n 2, 1) := by decide +kernel
theorem dX10_isWanted_38 : decode cX10_isWanted 38 = .ok (.aload_n 0, 1) := by decide +kernel
theorem dX10_isWanted_39 : decode cX10_isWanted 39 = .ok (.getfield 45, 3) := by decide +kernel
theorem dX10_isWanted_42 : decode cX10_isWanted 42 = .ok (.iload_n 3, 1) := by decide +kernel
theorem dX10_isWanted_43 : decode cX10_isWanted 43 = .ok (.iaload, 1) := by decide +kernel
theorem dX10_isWanted_44 : decode cX10_isWanted 44 = .ok (.invokevirtual 187, 3) := by decide +kernel
theorem dX10_isWanted_47 : decode cX10_isWanted 47 = .ok (.ifCond .eq 21, 3) := by decide +kernel
theorem dX10_isWanted_50 : decode cX10_isWanted 50 = .ok (.aload_n 0, 1) := by decide +kernel
theorem dX10_isWanted_51 : decode cX10_isWanted 51 = .ok (.iload_n 3, 1) := by decide +kernel
theorem dX10_isWanted_52 : decode cX10_isWanted 52 = .ok (.aload_n 0, 1) := by decide +kernel
theorem dX10_isWanted_53 : decode cX10_isWanted 53 = .ok (.getfield 45, 3) := by decide +kernel
theorem dX10_isWanted_56 : decode cX10_isWanted 56 = .ok (.iload_n 1, 1) := by decide +kernel
theorem dX10_isWanted_57 : decode cX10_isWanted 57 = .ok (.iaload, 1) := by decide +kernel
theorem dX10_isWanted_58 : decode cX10_isWanted 58 = .ok (.invokevirtual 187, 3) := by decide +kernel
theorem dX10_isWanted_61 : decode cX10_isWanted 61 = .ok (.ifCond .eq 7, 3) := by decide +kernel
theorem dX10_isWanted_64 : decode cX10_isWanted 64 = .ok (.iconst 1, 1) := by decide +kernel
theorem dX10_isWanted_65 : decode cX10_isWanted 65 = .ok (.goto 4, 3) := by decide +kernel
theorem dX10_isWanted_68 : decode cX10_isWanted 68 = .ok (.iconst 0, 1) := by decide +kernel
theorem dX10_isWanted_69 : decode cX10_isWanted 69 = .ok (.ireturn, 1) := by decide +kernel
theorem dX10_goRing_0 : decode cX10_goRing 0 = .ok (.aload_n 0, 1) := by decide +kernel
theorem dX10_goRing_1 : decode cX10_goRing 1 = .ok (.getfield 45, 3) := by decide +kernel
theorem dX10_goRing_4 : decode cX10_goRing 4 = .ok (.iload_n 1, 1) := by decide +kernel
theorem dX10_goRing_5 : decode cX10_goRing 5 = .ok (.iaload, 1) := by decide +kernel
theorem dX10_goRing_6 : decode cX10_goRing 6 = .ok (.istore 4, 2) := by decide +kernel
theorem dX10_goRing_8 : decode cX10_goRing 8 = .ok (.aload_n 0, 1) := by decide +kernel
theorem dX10_goRing_9 : decode cX10_goRing 9 = .ok (.getfield 45, 3) := by decide +kernel
theorem dX10_goRing_12 : decode cX10_goRing 12 = .ok (.iload_n 1, 1) := by decide +kernel
theorem dX10_goRing_13 : decode cX10_goRing 13 = .ok (.aload_n 0, 1) := by decide +kernel
theorem dX10_goRing_14 : decode cX10_goRing 14 = .ok (.getfield 45, 3) := by decide +kernel
theorem dX10_goRing_17 : decode cX10_goRing 17 = .ok (.iload_n 2, 1) := by decide +kernel
theorem dX10_goRing_18 : decode cX10_goRing 18 = .ok (.iaload, 1) := by decide +kernel
theorem dX10_goRing_19 : decode cX10_goRing 19 = .ok (.iastore, 1) := by decide +kernel
theorem dX10_goRing_20 : decode cX10_goRing 20 = .ok (.iload_n 3, 1) := by decide +kernel
theorem dX10_goRing_21 : decode cX10_goRing 21 = .ok (.iconst (-1), 1) := by decide +kernel
theorem dX10_goRing_22 : decode cX10_goRing 22 = .ok (.if_icmp .ne 14, 3) := by decide +kernel
theorem dX10_goRing_25 : decode cX10_goRing 25 = .ok (.aload_n 0, 1) := by decide +kernel
theorem dX10_goRing_26 : decode cX10_goRing 26 = .ok (.getfield 45, 3) := by decide +kernel
theorem dX10_goRing_29 : decode cX10_goRing 29 = .ok (.iload_n 2, 1) := by decide +kernel
theorem dX10_goRing_30 : decode cX10_goRing 30 = .ok (.iload 4, 2) := by decide +kernel
theorem dX10_goRing_32 : decode cX10_goRing 32 = .ok (.iastore, 1) := by decide +kernel
theorem dX10_goRing_33 : decode cX10_goRing 33 = .ok (.goto 23, 3) := by decide +kernel
theorem dX10_goRing_36 : decode cX10_goRing 36 = .ok (.aload_n 0, 1) := by decide +kernel
theorem dX10_goRing_37 : decode cX10_goRing 37 = .ok (.getfield 45, 3) := by decide +kernel
theorem dX10_goRing_40 : decode cX10_goRing 40 = .ok (.iload_n 2, 1) := by decide +kernel
theorem dX10_goRing_41 : decode cX10_goRing 41 = .ok (.aload_n 0, 1) := by decide +kernel
theorem dX10_goRing_42 : decode cX10_goRing 42 = .ok (.getfield 45, 3) := by decide +kernel
theorem dX10_goRing_45 : decode cX10_goRing 45 = .ok (.iload_n 3, 1) := by decide +kernel
theorem dX10_goRing_46 : decode cX10_goRing 46 = .ok (.iaload, 1) := by decide +kernel
theorem dX10_goRing_47 : decode cX10_goRing 47 = .ok (.iastore, 1) := by decide +kernel
theorem dX10_goRing_48 : decode cX10_goRing 48 = .ok (.aload_n 0, 1) := by decide +kernel
theorem dX10_goRing_49 : decode cX10_goRing 49 = .ok (.getfield 45, 3) := by decide +kernel
theorem dX10_goRing_52 : decode cX10_goRing 52 = .ok (.iload_n 3, 1) := by decide +kernel
theorem dX10_goRing_53 : decode cX10_goRing 53 = .ok (.iload 4, 2) := by decide +kernel
theorem dX10_goRing_55 : decode cX10_goRing 55 = .ok (.iastore, 1) := by decide +kernel
theorem dX10_goRing_56 : decode cX10_goRing 56 = .ok (.return_, 1) := by decide +kernel
theorem dX10_workOf_0 : decode cX10_workOf 0 = .ok (.iconst 0, 1) := by decide +kernel
theorem dX10_workOf_1 : decode cX10_workOf 1 = .ok (.istore_n 1, 1) := by decide +kernel
theorem dX10_workOf_2 : decode cX10_workOf 2 = .ok (.iconst 0, 1) := by decide +kernel
theorem dX10_workOf_3 : decode cX10_workOf 3 = .ok (.istore_n 2, 1) := by decide +kernel
theorem dX10_workOf_4 : decode cX10_workOf 4 = .ok (.iload_n 2, 1) := by decide +kernel
theorem dX10_workOf_5 : decode cX10_workOf 5 = .ok (.aload_n 0, 1) := by decide +kernel
theorem dX10_workOf_6 : decode cX10_workOf 6 = .ok (.getfield 7, 3) := by decide +kernel
theorem dX10_workOf_9 : decode cX10_workOf 9 = .ok (.if_icmp .ge 28, 3) := by decide +kernel
theorem dX10_workOf_12 : decode cX10_workOf 12 = .ok (.iload_n 1, 1) := by decide +kernel
theorem dX10_workOf_13 : decode cX10_workOf 13 = .ok (.aload_n 0, 1) := by decide +kernel
theorem dX10_workOf_14 : decode cX10_workOf 14 = .ok (.getfield 16, 3) := by decide +kernel
theorem dX10_workOf_17 : decode cX10_workOf 17 = .ok (.bipush 7, 2) := by decide +kernel
theorem dX10_workOf_19 : decode cX10_workOf 19 = .ok (.iload_n 2, 1) := by decide +kernel
theorem dX10_workOf_20 : decode cX10_workOf 20 = .ok (.imul, 1) := by decide +kernel
theorem dX10_workOf_21 : decode cX10_workOf 21 = .ok (.aload_n 0, 1) := by decide +kernel
theorem dX10_workOf_22 : decode cX10_workOf 22 = .ok (.getfield 45, 3) := by decide +kernel
theorem dX10_workOf_25 : decode cX10_workOf 25 = .ok (.iload_n 2, 1) := by decide +kernel
theorem dX10_workOf_26 : decode cX10_workOf 26 = .ok (.iaload, 1) := by decide +kernel
theorem dX10_workOf_27 : decode cX10_workOf 27 = .ok (.iadd, 1) := by decide +kernel
theorem dX10_workOf_28 : decode cX10_workOf 28 = .ok (.iaload, 1) := by decide +kernel
theorem dX10_workOf_29 : decode cX10_workOf 29 = .ok (.iadd, 1) := by decide +kernel
theorem dX10_workOf_30 : decode cX10_workOf 30 = .ok (.istore_n 1, 1) := by decide +kernel
theorem dX10_workOf_31 : decode cX10_workOf 31 = .ok (.iinc 2 1, 3) := by decide +kernel
theorem dX10_workOf_34 : decode cX10_workOf 34 = .ok (.goto (-30), 3) := by decide +kernel
theorem dX10_workOf_37 : decode cX10_workOf 37 = .ok (.iload_n 1, 1) := by decide +kernel
theorem dX10_workOf_38 : decode cX10_workOf 38 = .ok (.ireturn, 1) := by decide +kernel
theorem dX10_gladnessOf_0 : decode cX10_gladnessOf 0 = .ok (.iconst 0, 1) := by decide +kernel
theorem dX10_gladnessOf_1 : decode cX10_gladnessOf 1 = .ok (.istore_n 1, 1) := by decide +kernel
theorem dX10_gladnessOf_2 : decode cX10_gladnessOf 2 = .ok (.iconst 0, 1) := by decide +kernel
theorem dX10_gladnessOf_3 : decode cX10_gladnessOf 3 = .ok (.istore_n 2, 1) := by decide +kernel
theorem dX10_gladnessOf_4 : decode cX10_gladnessOf 4 = .ok (.iload_n 2, 1) := by decide +kernel
theorem dX10_gladnessOf_5 : decode cX10_gladnessOf 5 = .ok (.aload_n 0, 1) := by decide +kernel
theorem dX10_gladnessOf_6 : decode cX10_gladnessOf 6 = .ok (.getfield 7, 3) := by decide +kernel
theorem dX10_gladnessOf_9 : decode cX10_gladnessOf 9 = .ok (.if_icmp .ge 28, 3) := by decide +kernel
theorem dX10_gladnessOf_12 : decode cX10_gladnessOf 12 = .ok (.iload_n 1, 1) := by decide +kernel
theorem dX10_gladnessOf_13 : decode cX10_gladnessOf 13 = .ok (.aload_n 0, 1) := by decide +kernel
theorem dX10_gladnessOf_14 : decode cX10_gladnessOf 14 = .ok (.getfield 20, 3) := by decide +kernel
theorem dX10_gladnessOf_17 : decode cX10_gladnessOf 17 = .ok (.bipush 7, 2) := by decide +kernel
theorem dX10_gladnessOf_19 : decode cX10_gladnessOf 19 = .ok (.iload_n 2, 1) := by decide +kernel
theorem dX10_gladnessOf_20 : decode cX10_gladnessOf 20 = .ok (.imul, 1) := by decide +kernel
theorem dX10_gladnessOf_21 : decode cX10_gladnessOf 21 = .ok (.aload_n 0, 1) := by decide +kernel
theorem dX10_gladnessOf_22 : decode cX10_gladnessOf 22 = .ok (.getfield 45, 3) := by decide +kernel
theorem dX10_gladnessOf_25 : decode cX10_gladnessOf 25 = .ok (.iload_n 2, 1) := by decide +kernel
theorem dX10_gladnessOf_26 : decode cX10_gladnessOf 26 = .ok (.iaload, 1) := by decide +kernel
theorem dX10_gladnessOf_27 : decode cX10_gladnessOf 27 = .ok (.iadd, 1) := by decide +kernel
theorem dX10_gladnessOf_28 : decode cX10_gladnessOf 28 = .ok (.iaload, 1) := by decide +kernel
theorem dX10_gladnessOf_29 : decode cX10_gladnessOf 29 = .ok (.iadd, 1) := by decide +kernel
theorem dX10_gladnessOf_30 : decode cX10_gladnessOf 30 = .ok (.istore_n 1, 1) := by decide +kernel
theorem dX10_gladnessOf_31 : decode cX10_gladnessOf 31 = .ok (.iinc 2 1, 3) := by decide +kernel
theorem dX10_gladnessOf_34 : decode cX10_gladnessOf 34 = .ok (.goto (-30), 3) := by decide +kernel
theorem dX10_gladnessOf_37 : decode cX10_gladnessOf 37 = .ok (.iload_n 1, 1) := by decide +kernel
theorem dX10_gladnessOf_38 : decode cX10_gladnessOf 38 = .ok (.ireturn, 1) := by decide +kernel
theorem dX10_trade_0 : decode cX10_trade 0 = .ok (.aload_n 0, 1) := by decide +kernel
theorem dX10_trade_1 : decode cX10_trade 1 = .ok (.iload_n 1, 1) := by decide +kernel
theorem dX10_trade_2 : decode cX10_trade 2 = .ok (.invokevirtual 166, 3) := by decide +kernel
theorem dX10_trade_5 : decode cX10_trade 5 = .ok (.ifCond .eq 27, 3) := by decide +kernel
theorem dX10_trade_8 : decode cX10_trade 8 = .ok (.aload_n 0, 1) := by decide +kernel
theorem dX10_trade_9 : decode cX10_trade 9 = .ok (.iload_n 2, 1) := by decide +kernel
theorem dX10_trade_10 : decode cX10_trade 10 = .ok (.invokevirtual 166, 3) := by decide +kernel
theorem dX10_trade_13 : decode cX10_trade 13 = .ok (.ifCond .eq 19, 3) := by decide +kernel
theorem dX10_trade_16 : decode cX10_trade 16 = .ok (.aload_n 0, 1) := by decide +kernel
theorem dX10_trade_17 : decode cX10_trade 17 = .ok (.getfield 13, 3) := by decide +kernel
theorem dX10_trade_20 : decode cX10_trade 20 = .ok (.iconst 3, 1) := by decide +kernel
theorem dX10_trade_21 : decode cX10_trade 21 = .ok (.if_icmp .ne 14, 3) := by decide +kernel
theorem dX10_trade_24 : decode cX10_trade 24 = .ok (.aload_n 0, 1) := by decide +kernel
theorem dX10_trade_25 : decode cX10_trade 25 = .ok (.iload_n 3, 1) := by decide +kernel
theorem dX10_trade_26 : decode cX10_trade 26 = .ok (.invokevirtual 166, 3) := by decide +kernel
theorem dX10_trade_29 : decode cX10_trade 29 = .ok (.ifCond .ne 6, 3) := by decide +kernel
theorem dX10_trade_32 : decode cX10_trade 32 = .ok (.bipush (-2), 2) := by decide +kernel
theorem dX10_trade_34 : decode cX10_trade 34 = .ok (.ireturn, 1) := by decide +kernel
theorem dX10_trade_35 : decode cX10_trade 35 = .ok (.iload_n 1, 1) := by decide +kernel
theorem dX10_trade_36 : decode cX10_trade 36 = .ok (.iload_n 2, 1) := by decide +kernel
theorem dX10_trade_37 : decode cX10_trade 37 = .ok (.if_icmp .eq 34, 3) := by decide +kernel
theorem dX10_trade_40 : decode cX10_trade 40 = .ok (.aload_n 0, 1) := by decide +kernel
theorem dX10_trade_41 : decode cX10_trade 41 = .ok (.getfield 13, 3) := by decide +kernel
theorem dX10_trade_44 : decode cX10_trade 44 = .ok (.iconst 3, 1) := by decide +kernel
theorem dX10_trade_45 : decode cX10_trade 45 = .ok (.if_icmp .ne 13, 3) := by decide +kernel
theorem dX10_trade_48 : decode cX10_trade 48 = .ok (.iload_n 1, 1) := by decide +kernel
theorem dX10_trade_49 : decode cX10_trade 49 = .ok (.iload_n 3, 1) := by decide +kernel
theorem dX10_trade_50 : decode cX10_trade 50 = .ok (.if_icmp .eq 21, 3) := by decide +kernel
theorem dX10_trade_53 : decode cX10_trade 53 = .ok (.iload_n 2, 1) := by decide +kernel
theorem dX10_trade_54 : decode cX10_trade 54 = .ok (.iload_n 3, 1) := by decide +kernel
theorem dX10_trade_55 : decode cX10_trade 55 = .ok (.if_icmp .eq 16, 3) := by decide +kernel
theorem dX10_trade_58 : decode cX10_trade 58 = .ok (.aload_n 0, 1) := by decide +kernel
theorem dX10_trade_59 : decode cX10_trade 59 = .ok (.getfield 13, 3) := by decide +kernel
theorem dX10_trade_62 : decode cX10_trade 62 = .ok (.iconst 3, 1) := by decide +kernel
theorem dX10_trade_63 : decode cX10_trade 63 = .ok (.if_icmp .eq 11, 3) := by decide +kernel
theorem dX10_trade_66 : decode cX10_trade 66 = .ok (.iload_n 3, 1) := by decide +kernel
theorem dX10_trade_67 : decode cX10_trade 67 = .ok (.iconst (-1), 1) := by decide +kernel
theorem dX10_trade_68 : decode cX10_trade 68 = .ok (.if_icmp .eq 6, 3) := by decide +kernel
theorem dX10_trade_71 : decode cX10_trade 71 = .ok (.bipush (-3), 2) := by decide +kernel
theorem dX10_trade_73 : decode cX10_trade 73 = .ok (.ireturn, 1) := by decide +kernel
theorem dX10_trade_74 : decode cX10_trade 74 = .ok (.aload_n 0, 1) := by decide +kernel
theorem dX10_trade_75 : decode cX10_trade 75 = .ok (.getfield 35, 3) := by decide +kernel
theorem dX10_trade_78 : decode cX10_trade 78 = .ok (.iconst 0, 1) := by decide +kernel
theorem dX10_trade_79 : decode cX10_trade 79 = .ok (.iaload, 1) := by decide +kernel
theorem dX10_trade_80 : decode cX10_trade 80 = .ok (.ifCond .eq 10, 3) := by decide +kernel
theorem dX10_trade_83 : decode cX10_trade 83 = .ok (.aload_n 0, 1) := by decide +kernel
theorem dX10_trade_84 : decode cX10_trade 84 = .ok (.getfield 13, 3) := by decide +kernel
theorem dX10_trade_87 : decode cX10_trade 87 = .ok (.ifCond .ne 6, 3) := by decide +kernel
theorem dX10_trade_90 : decode cX10_trade 90 = .ok (.bipush (-4), 2) := by decide +kernel
theorem dX10_trade_92 : decode cX10_trade 92 = .ok (.ireturn, 1) := by decide +kernel
theorem dX10_trade_93 : decode cX10_trade 93 = .ok (.aload_n 0, 1) := by decide +kernel
theorem dX10_trade_94 : decode cX10_trade 94 = .ok (.invokevirtual 190, 3) := by decide +kernel
theorem dX10_trade_97 : decode cX10_trade 97 = .ok (.aload_n 0, 1) := by decide +kernel
theorem dX10_trade_98 : decode cX10_trade 98 = .ok (.iload_n 1, 1) := by decide +kernel
theorem dX10_trade_99 : decode cX10_trade 99 = .ok (.iload_n 2, 1) := by decide +kernel
theorem dX10_trade_100 : decode cX10_trade 100 = .ok (.iload_n 3, 1) := by decide +kernel
theorem dX10_trade_101 : decode cX10_trade 101 = .ok (.invokevirtual 193, 3) := by decide +kernel
theorem dX10_trade_104 : decode cX10_trade 104 = .ok (.ifCond .ne 6, 3) := by decide +kernel
theorem dX10_trade_107 : decode cX10_trade 107 = .ok (.bipush (-4), 2) := by decide +kernel
theorem dX10_trade_109 : decode cX10_trade 109 = .ok (.ireturn, 1) := by decide +kernel
theorem dX10_trade_110 : decode cX10_trade 110 = .ok (.aload_n 0, 1) := by decide +kernel
theorem dX10_trade_111 : decode cX10_trade 111 = .ok (.iload_n 1, 1) := by decide +kernel
theorem dX10_trade_112 : decode cX10_trade 112 = .ok (.iload_n 2, 1) := by decide +kernel
theorem dX10_trade_113 : decode cX10_trade 113 = .ok (.iload_n 3, 1) := by decide +kernel
theorem dX10_trade_114 : decode cX10_trade 114 = .ok (.invokevirtual 196, 3) := by decide +kernel
theorem dX10_trade_117 : decode cX10_trade 117 = .ok (.aload_n 0, 1) := by decide +kernel
theorem dX10_trade_118 : decode cX10_trade 118 = .ok (.invokevirtual 183, 3) := by decide +kernel
theorem dX10_trade_121 : decode cX10_trade 121 = .ok (.aload_n 0, 1) := by decide +kernel
theorem dX10_trade_122 : decode cX10_trade 122 = .ok (.invokevirtual 200, 3) := by decide +kernel
theorem dX10_trade_125 : decode cX10_trade 125 = .ok (.ireturn, 1) := by decide +kernel
theorem dX10_takeRing_0 : decode cX10_takeRing 0 = .ok (.aload_n 0, 1) := by decide +kernel
theorem dX10_takeRing_1 : decode cX10_takeRing 1 = .ok (.iload_n 1, 1) := by decide +kernel
theorem dX10_takeRing_2 : decode cX10_takeRing 2 = .ok (.bipush 64, 2) := by decide +kernel
theorem dX10_takeRing_4 : decode cX10_takeRing 4 = .ok (.idiv, 1) := by decide +kernel
theorem dX10_takeRing_5 : decode cX10_takeRing 5 = .ok (.putfield 204, 3) := by decide +kernel
theorem dX10_takeRing_8 : decode cX10_takeRing 8 = .ok (.aload_n 0, 1) := by decide +kernel
theorem dX10_takeRing_9 : decode cX10_takeRing 9 = .ok (.iload_n 1, 1) := by decide +kernel
theorem dX10_takeRing_10 : decode cX10_takeRing 10 = .ok (.bipush 8, 2) := by decide +kernel
theorem dX10_takeRing_12 : decode cX10_takeRing 12 = .ok (.idiv, 1) := by decide +kernel
theorem dX10_takeRing_13 : decode cX10_takeRing 13 = .ok (.bipush 8, 2) := by decide +kernel
theorem dX10_takeRing_15 : decode cX10_takeRing 15 = .ok (.irem, 1) := by decide +kernel
theorem dX10_takeRing_16 : decode cX10_takeRing 16 = .ok (.putfield 207, 3) := by decide +kernel
theorem dX10_takeRing_19 : decode cX10_takeRing 19 = .ok (.aload_n 0, 1) := by decide +kernel
theorem dX10_takeRing_20 : decode cX10_takeRing 20 = .ok (.iload_n 2, 1) := by decide +kernel
theorem dX10_takeRing_21 : decode cX10_takeRing 21 = .ok (.iconst 2, 1) := by decide +kernel
theorem dX10_takeRing_22 : decode cX10_takeRing 22 = .ok (.if_icmp .ne 7, 3) := by decide +kernel
theorem dX10_takeRing_25 : decode cX10_takeRing 25 = .ok (.iconst (-1), 1) := by decide +kernel
theorem dX10_takeRing_26 : decode cX10_takeRing 26 = .ok (.goto 7, 3) := by decide +kernel
theorem dX10_takeRing_29 : decode cX10_takeRing 29 = .ok (.iload_n 1, 1) := by decide +kernel
theorem dX10_takeRing_30 : decode cX10_takeRing 30 = .ok (.bipush 8, 2) := by decide +kernel
theorem dX10_takeRing_32 : decode cX10_takeRing 32 = .ok (.irem, 1) := by decide +kernel
theorem dX10_takeRing_33 : decode cX10_takeRing 33 = .ok (.putfield 210, 3) := by decide +kernel
theorem dX10_takeRing_36 : decode cX10_takeRing 36 = .ok (.return_, 1) := by decide +kernel
theorem dX10_nextWanted_0 : decode cX10_nextWanted 0 = .ok (.iload_n 1, 1) := by decide +kernel
theorem dX10_nextWanted_1 : decode cX10_nextWanted 1 = .ok (.istore_n 3, 1) := by decide +kernel
theorem dX10_nextWanted_2 : decode cX10_nextWanted 2 = .ok (.iload_n 3, 1) := by decide +kernel
theorem dX10_nextWanted_3 : decode cX10_nextWanted 3 = .ok (.sipush 448, 3) := by decide +kernel
theorem dX10_nextWanted_6 : decode cX10_nextWanted 6 = .ok (.if_icmp .ge 133, 3) := by decide +kernel
theorem dX10_nextWanted_9 : decode cX10_nextWanted 9 = .ok (.iload_n 2, 1) := by decide +kernel
theorem dX10_nextWanted_10 : decode cX10_nextWanted 10 = .ok (.ifCond .le 129, 3) := by decide +kernel
theorem dX10_nextWanted_13 : decode cX10_nextWanted 13 = .ok (.aload_n 0, 1) := by decide +kernel
