theorem dX9_ends_89 : decode cX9_ends 89 = .ok (.getfield 61, 3) := by decide +kernel
theorem dX9_ends_92 : decode cX9_ends 92 = .ok (.getfield 207, 3) := by decide +kernel
theorem dX9_ends_95 : decode cX9_ends 95 = .ok (.ireturn, 1) := by decide +kernel
theorem dX9_hint_0 : decode cX9_hint 0 = .ok (.aload_n 0, 1) := by decide +kernel
theorem dX9_hint_1 : decode cX9_hint 1 = .ok (.iload_n 1, 1) := by decide +kernel
theorem dX9_hint_2 : decode cX9_hint 2 = .ok (.invokevirtual 122, 3) := by decide +kernel
theorem dX9_hint_5 : decode cX9_hint 5 = .ok (.ifCond .ne 6, 3) := by decide +kernel
theorem dX9_hint_8 : decode cX9_hint 8 = .ok (.bipush (-2), 2) := by decide +kernel
theorem dX9_hint_10 : decode cX9_hint 10 = .ok (.ireturn, 1) := by decide +kernel
theorem dX9_hint_11 : decode cX9_hint 11 = .ok (.aload_n 0, 1) := by decide +kernel
theorem dX9_hint_12 : decode cX9_hint 12 = .ok (.getfield 26, 3) := by decide +kernel
theorem dX9_hint_15 : decode cX9_hint 15 = .ok (.getfield 160, 3) := by decide +kernel
theorem dX9_hint_18 : decode cX9_hint 18 = .ok (.ifCond .ne 6, 3) := by decide +kernel
theorem dX9_hint_21 : decode cX9_hint 21 = .ok (.bipush (-4), 2) := by decide +kernel
theorem dX9_hint_23 : decode cX9_hint 23 = .ok (.ireturn, 1) := by decide +kernel
theorem dX9_hint_24 : decode cX9_hint 24 = .ok (.aload_n 0, 1) := by decide +kernel
theorem dX9_hint_25 : decode cX9_hint 25 = .ok (.getfield 43, 3) := by decide +kernel
theorem dX9_hint_28 : decode cX9_hint 28 = .ok (.iload_n 1, 1) := by decide +kernel
theorem dX9_hint_29 : decode cX9_hint 29 = .ok (.aload_n 0, 1) := by decide +kernel
theorem dX9_hint_30 : decode cX9_hint 30 = .ok (.getfield 26, 3) := by decide +kernel
theorem dX9_hint_33 : decode cX9_hint 33 = .ok (.getfield 164, 3) := by decide +kernel
theorem dX9_hint_36 : decode cX9_hint 36 = .ok (.aload_n 0, 1) := by decide +kernel
theorem dX9_hint_37 : decode cX9_hint 37 = .ok (.getfield 19, 3) := by decide +kernel
theorem dX9_hint_40 : decode cX9_hint 40 = .ok (.getfield 167, 3) := by decide +kernel
theorem dX9_hint_43 : decode cX9_hint 43 = .ok (.invokevirtual 210, 3) := by decide +kernel
theorem dX9_hint_46 : decode cX9_hint 46 = .ok (.ireturn, 1) := by decide +kernel
theorem dX9_lawful_0 : decode cX9_lawful 0 = .ok (.aload_n 0, 1) := by decide +kernel
theorem dX9_lawful_1 : decode cX9_lawful 1 = .ok (.iconst 0, 1) := by decide +kernel
theorem dX9_lawful_2 : decode cX9_lawful 2 = .ok (.invokevirtual 214, 3) := by decide +kernel
theorem dX9_lawful_5 : decode cX9_lawful 5 = .ok (.getfield 218, 3) := by decide +kernel
theorem dX9_lawful_8 : decode cX9_lawful 8 = .ok (.ireturn, 1) := by decide +kernel
theorem dX9_mean_0 : decode cX9_mean 0 = .ok (.iload_n 1, 1) := by decide +kernel
theorem dX9_mean_1 : decode cX9_mean 1 = .ok (.invokestatic 221, 3) := by decide +kernel
theorem dX9_mean_4 : decode cX9_mean 4 = .ok (.ifCond .eq 19, 3) := by decide +kernel
theorem dX9_mean_7 : decode cX9_mean 7 = .ok (.iload_n 2, 1) := by decide +kernel
theorem dX9_mean_8 : decode cX9_mean 8 = .ok (.ifCond .lt 15, 3) := by decide +kernel
theorem dX9_mean_11 : decode cX9_mean 11 = .ok (.iload_n 2, 1) := by decide +kernel
theorem dX9_mean_12 : decode cX9_mean 12 = .ok (.iconst 1, 1) := by decide +kernel
theorem dX9_mean_13 : decode cX9_mean 13 = .ok (.if_icmp .gt 10, 3) := by decide +kernel
theorem dX9_mean_16 : decode cX9_mean 16 = .ok (.iload_n 3, 1) := by decide +kernel
theorem dX9_mean_17 : decode cX9_mean 17 = .ok (.invokestatic 224, 3) := by decide +kernel
theorem dX9_mean_20 : decode cX9_mean 20 = .ok (.ifCond .ne 6, 3) := by decide +kernel
theorem dX9_mean_23 : decode cX9_mean 23 = .ok (.bipush (-3), 2) := by decide +kernel
theorem dX9_mean_25 : decode cX9_mean 25 = .ok (.ireturn, 1) := by decide +kernel
theorem dX9_mean_26 : decode cX9_mean 26 = .ok (.aload_n 0, 1) := by decide +kernel
theorem dX9_mean_27 : decode cX9_mean 27 = .ok (.iload_n 1, 1) := by decide +kernel
theorem dX9_mean_28 : decode cX9_mean 28 = .ok (.invokevirtual 214, 3) := by decide +kernel
theorem dX9_mean_31 : decode cX9_mean 31 = .ok (.astore 4, 2) := by decide +kernel
theorem dX9_mean_33 : decode cX9_mean 33 = .ok (.aload 4, 2) := by decide +kernel
theorem dX9_mean_35 : decode cX9_mean 35 = .ok (.getfield 218, 3) := by decide +kernel
theorem dX9_mean_38 : decode cX9_mean 38 = .ok (.ifCond .ne 6, 3) := by decide +kernel
theorem dX9_mean_41 : decode cX9_mean 41 = .ok (.bipush (-4), 2) := by decide +kernel
theorem dX9_mean_43 : decode cX9_mean 43 = .ok (.ireturn, 1) := by decide +kernel
theorem dX9_mean_44 : decode cX9_mean 44 = .ok (.iload_n 2, 1) := by decide +kernel
theorem dX9_mean_45 : decode cX9_mean 45 = .ok (.ifCond .ne 12, 3) := by decide +kernel
theorem dX9_mean_48 : decode cX9_mean 48 = .ok (.aload 4, 2) := by decide +kernel
theorem dX9_mean_50 : decode cX9_mean 50 = .ok (.getfield 227, 3) := by decide +kernel
theorem dX9_mean_53 : decode cX9_mean 53 = .ok (.i2l, 1) := by decide +kernel
theorem dX9_mean_54 : decode cX9_mean 54 = .ok (.goto 9, 3) := by decide +kernel
theorem dX9_mean_57 : decode cX9_mean 57 = .ok (.aload 4, 2) := by decide +kernel
theorem dX9_mean_59 : decode cX9_mean 59 = .ok (.getfield 230, 3) := by decide +kernel
theorem dX9_mean_62 : decode cX9_mean 62 = .ok (.i2l, 1) := by decide +kernel
theorem dX9_mean_63 : decode cX9_mean 63 = .ok (.aload 4, 2) := by decide +kernel
theorem dX9_mean_65 : decode cX9_mean 65 = .ok (.getfield 218, 3) := by decide +kernel
theorem dX9_mean_68 : decode cX9_mean 68 = .ok (.i2l, 1) := by decide +kernel
theorem dX9_mean_69 : decode cX9_mean 69 = .ok (.iload_n 3, 1) := by decide +kernel
theorem dX9_mean_70 : decode cX9_mean 70 = .ok (.invokestatic 231, 3) := by decide +kernel
theorem dX9_mean_73 : decode cX9_mean 73 = .ok (.l2i, 1) := by decide +kernel
theorem dX9_mean_74 : decode cX9_mean 74 = .ok (.ireturn, 1) := by decide +kernel
theorem dX9_odds_0 : decode cX9_odds 0 = .ok (.aload_n 0, 1) := by decide +kernel
theorem dX9_odds_1 : decode cX9_odds 1 = .ok (.iload_n 1, 1) := by decide +kernel
theorem dX9_odds_2 : decode cX9_odds 2 = .ok (.invokevirtual 122, 3) := by decide +kernel
theorem dX9_odds_5 : decode cX9_odds 5 = .ok (.ifCond .eq 11, 3) := by decide +kernel
theorem dX9_odds_8 : decode cX9_odds 8 = .ok (.aload_n 0, 1) := by decide +kernel
theorem dX9_odds_9 : decode cX9_odds 9 = .ok (.iload_n 2, 1) := by decide +kernel
theorem dX9_odds_10 : decode cX9_odds 10 = .ok (.invokevirtual 122, 3) := by decide +kernel
theorem dX9_odds_13 : decode cX9_odds 13 = .ok (.ifCond .ne 6, 3) := by decide +kernel
theorem dX9_odds_16 : decode cX9_odds 16 = .ok (.bipush (-2), 2) := by decide +kernel
theorem dX9_odds_18 : decode cX9_odds 18 = .ok (.ireturn, 1) := by decide +kernel
theorem dX9_odds_19 : decode cX9_odds 19 = .ok (.iload_n 3, 1) := by decide +kernel
theorem dX9_odds_20 : decode cX9_odds 20 = .ok (.invokestatic 221, 3) := by decide +kernel
theorem dX9_odds_23 : decode cX9_odds 23 = .ok (.ifCond .eq 11, 3) := by decide +kernel
theorem dX9_odds_26 : decode cX9_odds 26 = .ok (.iload 4, 2) := by decide +kernel
theorem dX9_odds_28 : decode cX9_odds 28 = .ok (.invokestatic 224, 3) := by decide +kernel
theorem dX9_odds_31 : decode cX9_odds 31 = .ok (.ifCond .ne 6, 3) := by decide +kernel
theorem dX9_odds_34 : decode cX9_odds 34 = .ok (.bipush (-3), 2) := by decide +kernel
theorem dX9_odds_36 : decode cX9_odds 36 = .ok (.ireturn, 1) := by decide +kernel
theorem dX9_odds_37 : decode cX9_odds 37 = .ok (.aload_n 0, 1) := by decide +kernel
theorem dX9_odds_38 : decode cX9_odds 38 = .ok (.iload_n 3, 1) := by decide +kernel
theorem dX9_odds_39 : decode cX9_odds 39 = .ok (.invokevirtual 214, 3) := by decide +kernel
theorem dX9_odds_42 : decode cX9_odds 42 = .ok (.astore 5, 2) := by decide +kernel
theorem dX9_odds_44 : decode cX9_odds 44 = .ok (.aload 5, 2) := by decide +kernel
theorem dX9_odds_46 : decode cX9_odds 46 = .ok (.getfield 218, 3) := by decide +kernel
theorem dX9_odds_49 : decode cX9_odds 49 = .ok (.ifCond .ne 6, 3) := by decide +kernel
theorem dX9_odds_52 : decode cX9_odds 52 = .ok (.bipush (-4), 2) := by decide +kernel
theorem dX9_odds_54 : decode cX9_odds 54 = .ok (.ireturn, 1) := by decide +kernel
theorem dX9_odds_55 : decode cX9_odds 55 = .ok (.aload 5, 2) := by decide +kernel
theorem dX9_odds_57 : decode cX9_odds 57 = .ok (.getfield 237, 3) := by decide +kernel
theorem dX9_odds_60 : decode cX9_odds 60 = .ok (.iload_n 1, 1) := by decide +kernel
theorem dX9_odds_61 : decode cX9_odds 61 = .ok (.iload_n 2, 1) := by decide +kernel
theorem dX9_odds_62 : decode cX9_odds 62 = .ok (.invokestatic 240, 3) := by decide +kernel
theorem dX9_odds_65 : decode cX9_odds 65 = .ok (.iaload, 1) := by decide +kernel
theorem dX9_odds_66 : decode cX9_odds 66 = .ok (.i2l, 1) := by decide +kernel
theorem dX9_odds_67 : decode cX9_odds 67 = .ok (.aload 5, 2) := by decide +kernel
theorem dX9_odds_69 : decode cX9_odds 69 = .ok (.getfield 218, 3) := by decide +kernel
theorem dX9_odds_72 : decode cX9_odds 72 = .ok (.i2l, 1) := by decide +kernel
theorem dX9_odds_73 : decode cX9_odds 73 = .ok (.iload 4, 2) := by decide +kernel
theorem dX9_odds_75 : decode cX9_odds 75 = .ok (.invokestatic 231, 3) := by decide +kernel
theorem dX9_odds_78 : decode cX9_odds 78 = .ok (.l2i, 1) := by decide +kernel
theorem dX9_odds_79 : decode cX9_odds 79 = .ok (.ireturn, 1) := by decide +kernel
theorem dX9_week_0 : decode cX9_week 0 = .ok (.iload_n 1, 1) := by decide +kernel
theorem dX9_week_1 : decode cX9_week 1 = .ok (.iconst 1, 1) := by decide +kernel
theorem dX9_week_2 : decode cX9_week 2 = .ok (.if_icmp .lt 9, 3) := by decide +kernel
theorem dX9_week_5 : decode cX9_week 5 = .ok (.iload_n 1, 1) := by decide +kernel
theorem dX9_week_6 : decode cX9_week 6 = .ok (.bipush 7, 2) := by decide +kernel
theorem dX9_week_8 : decode cX9_week 8 = .ok (.if_icmp .le 6, 3) := by decide +kernel
theorem dX9_week_11 : decode cX9_week 11 = .ok (.bipush (-3), 2) := by decide +kernel
theorem dX9_week_13 : decode cX9_week 13 = .ok (.ireturn, 1) := by decide +kernel
theorem dX9_week_14 : decode cX9_week 14 = .ok (.aload_n 0, 1) := by decide +kernel
theorem dX9_week_15 : decode cX9_week 15 = .ok (.getfield 19, 3) := by decide +kernel
theorem dX9_week_18 : decode cX9_week 18 = .ok (.getfield 102, 3) := by decide +kernel
theorem dX9_week_21 : decode cX9_week 21 = .ok (.iconst 5, 1) := by decide +kernel
theorem dX9_week_22 : decode cX9_week 22 = .ok (.if_icmp .le 6, 3) := by decide +kernel
theorem dX9_week_25 : decode cX9_week 25 = .ok (.bipush (-4), 2) := by decide +kernel
theorem dX9_week_27 : decode cX9_week 27 = .ok (.ireturn, 1) := by decide +kernel
theorem dX9_week_28 : decode cX9_week 28 = .ok (.aload_n 0, 1) := by decide +kernel
theorem dX9_week_29 : decode cX9_week 29 = .ok (.getfield 68, 3) := by decide +kernel
theorem dX9_week_32 : decode cX9_week 32 = .ok (.aload_n 0, 1) := by decide +kernel
theorem dX9_week_33 : decode cX9_week 33 = .ok (.getfield 26, 3) := by decide +kernel
theorem dX9_week_36 : decode cX9_week 36 = .ok (.getfield 87, 3) := by decide +kernel
theorem dX9_week_39 : decode cX9_week 39 = .ok (.iload_n 1, 1) := by decide +kernel
theorem dX9_week_40 : decode cX9_week 40 = .ok (.invokevirtual 243, 3) := by decide +kernel
theorem dX9_week_43 : decode cX9_week 43 = .ok (.ireturn, 1) := by decide +kernel
theorem dX9_often_0 : decode cX9_often 0 = .ok (.aload_n 0, 1) := by decide +kernel
theorem dX9_often_1 : decode cX9_often 1 = .ok (.iload_n 1, 1) := by decide +kernel
theorem dX9_often_2 : decode cX9_often 2 = .ok (.invokevirtual 122, 3) := by decide +kernel
theorem dX9_often_5 : decode cX9_often 5 = .ok (.ifCond .eq 11, 3) := by decide +kernel
theorem dX9_often_8 : decode cX9_often 8 = .ok (.aload_n 0, 1) := by decide +kernel
theorem dX9_often_9 : decode cX9_often 9 = .ok (.iload_n 2, 1) := by decide +kernel
theorem dX9_often_10 : decode cX9_often 10 = .ok (.invokevirtual 122, 3) := by decide +kernel
theorem dX9_often_13 : decode cX9_often 13 = .ok (.ifCond .ne 6, 3) := by decide +kernel
theorem dX9_often_16 : decode cX9_often 16 = .ok (.bipush (-2), 2) := by decide +kernel
theorem dX9_often_18 : decode cX9_often 18 = .ok (.ireturn, 1) := by decide +kernel
theorem dX9_often_19 : decode cX9_often 19 = .ok (.aload_n 0, 1) := by decide +kernel
theorem dX9_often_20 : decode cX9_often 20 = .ok (.getfield 26, 3) := by decide +kernel
theorem dX9_often_23 : decode cX9_often 23 = .ok (.iload_n 1, 1) := by decide +kernel
theorem dX9_often_24 : decode cX9_often 24 = .ok (.iload_n 2, 1) := by decide +kernel
theorem dX9_often_25 : decode cX9_often 25 = .ok (.invokevirtual 246, 3) := by decide +kernel
theorem dX9_often_28 : decode cX9_often 28 = .ok (.ireturn, 1) := by decide +kernel
theorem dX9_tail_0 : decode cX9_tail 0 = .ok (.aload_n 0, 1) := by decide +kernel
theorem dX9_tail_1 : decode cX9_tail 1 = .ok (.iload_n 1, 1) := by decide +kernel
theorem dX9_tail_2 : decode cX9_tail 2 = .ok (.invokevirtual 122, 3) := by decide +kernel
theorem dX9_tail_5 : decode cX9_tail 5 = .ok (.ifCond .eq 11, 3) := by decide +kernel
theorem dX9_tail_8 : decode cX9_tail 8 = .ok (.aload_n 0, 1) := by decide +kernel
theorem dX9_tail_9 : decode cX9_tail 9 = .ok (.iload_n 2, 1) := by decide +kernel
theorem dX9_tail_10 : decode cX9_tail 10 = .ok (.invokevirtual 122, 3) := by decide +kernel
theorem dX9_tail_13 : decode cX9_tail 13 = .ok (.ifCond .ne 7, 3) := by decide +kernel
theorem dX9_tail_16 : decode cX9_tail 16 = .ok (.ldc2_w 249, 3) := by decide +kernel
theorem dX9_tail_19 : decode cX9_tail 19 = .ok (.lreturn, 1) := by decide +kernel
theorem dX9_tail_20 : decode cX9_tail 20 = .ok (.iload_n 3, 1) := by decide +kernel
theorem dX9_tail_21 : decode cX9_tail 21 = .ok (.invokestatic 224, 3) := by decide +kernel
theorem dX9_tail_24 : decode cX9_tail 24 = .ok (.ifCond .ne 7, 3) := by decide +kernel
theorem dX9_tail_27 : decode cX9_tail 27 = .ok (.ldc2_w 251, 3) := by decide +kernel
theorem dX9_tail_30 : decode cX9_tail 30 = .ok (.lreturn, 1) := by decide +kernel
theorem dX9_tail_31 : decode cX9_tail 31 = .ok (.aload_n 0, 1) := by decide +kernel
theorem dX9_tail_32 : decode cX9_tail 32 = .ok (.getfield 26, 3) := by decide +kernel
theorem dX9_tail_35 : decode cX9_tail 35 = .ok (.iload_n 1, 1) := by decide +kernel
theorem dX9_tail_36 : decode cX9_tail 36 = .ok (.iload_n 2, 1) := by decide +kernel
theorem dX9_tail_37 : decode cX9_tail 37 = .ok (.invokevirtual 246, 3) := by decide +kernel
theorem dX9_tail_40 : decode cX9_tail 40 = .ok (.aload_n 0, 1) := by decide +kernel
theorem dX9_tail_41 : decode cX9_tail 41 = .ok (.getfield 26, 3) := by decide +kernel
theorem dX9_tail_44 : decode cX9_tail 44 = .ok (.getfield 186, 3) := by decide +kernel
theorem dX9_tail_47 : decode cX9_tail 47 = .ok (.aload_n 0, 1) := by decide +kernel
theorem dX9_tail_48 : decode cX9_tail 48 = .ok (.getfield 19, 3) := by decide +kernel
theorem dX9_tail_51 : decode cX9_tail 51 = .ok (.getfield 102, 3) := by decide +kernel
theorem dX9_tail_54 : decode cX9_tail 54 = .ok (.invokestatic 253, 3) := by decide +kernel
theorem dX9_tail_57 : decode cX9_tail 57 = .ok (.lstore 4, 2) := by decide +kernel
theorem dX9_tail_59 : decode cX9_tail 59 = .ok (.lload 4, 2) := by decide +kernel
theorem dX9_tail_61 : decode cX9_tail 61 = .ok (.aload_n 0, 1) := by decide +kernel
theorem dX9_tail_62 : decode cX9_tail 62 = .ok (.getfield 19, 3) := by decide +kernel
theorem dX9_tail_65 : decode cX9_tail 65 = .ok (.getfield 102, 3) := by decide +kernel
theorem dX9_tail_68 : decode cX9_tail 68 = .ok (.i2l, 1) := by decide +kernel
theorem dX9_tail_69 : decode cX9_tail 69 = .ok (.aload_n 0, 1) := by decide +kernel
theorem dX9_tail_70 : decode cX9_tail 70 = .ok (.getfield 26, 3) := by decide +kernel
theorem dX9_tail_73 : decode cX9_tail 73 = .ok (.getfield 186, 3) := by decide +kernel
theorem dX9_tail_76 : decode cX9_tail 76 = .ok (.invokestatic 257, 3) := by decide +kernel
theorem dX9_tail_79 : decode cX9_tail 79 = .ok (.iload_n 3, 1) := by decide +kernel
theorem dX9_tail_80 : decode cX9_tail 80 = .ok (.invokestatic 231, 3) := by decide +kernel
theorem dX9_tail_83 : decode cX9_tail 83 = .ok (.lreturn, 1) := by decide +kernel
theorem dX9_named_0 : decode cX9_named 0 = .ok (.iload_n 1, 1) := by decide +kernel
theorem dX9_named_1 : decode cX9_named 1 = .ok (.ifCond .lt 10, 3) := by decide +kernel
theorem dX9_named_4 : decode cX9_named 4 = .ok (.iload_n 1, 1) := by decide +kernel
theorem dX9_named_5 : decode cX9_named 5 = .ok (.sipush 1000, 3) := by decide +kernel
theorem dX9_named_8 : decode cX9_named 8 = .ok (.if_icmp .le 6, 3) := by decide +kernel
theorem dX9_named_11 : decode cX9_named 11 = .ok (.bipush (-3), 2) := by decide +kernel
theorem dX9_named_13 : decode cX9_named 13 = .ok (.ireturn, 1) := by decide +kernel
theorem dX9_named_14 : decode cX9_named 14 = .ok (.aload_n 0, 1) := by decide +kernel
theorem dX9_named_15 : decode cX9_named 15 = .ok (.getfield 19, 3) := by decide +kernel
theorem dX9_named_18 : decode cX9_named 18 = .ok (.getfield 102, 3) := by decide +kernel
theorem dX9_named_21 : decode cX9_named 21 = .ok (.i2l, 1) := by decide +kernel
theorem dX9_named_22 : decode cX9_named 22 = .ok (.aload_n 0, 1) := by decide +kernel
theorem dX9_named_23 : decode cX9_named 23 = .ok (.getfield 26, 3) := by decide +kernel
theorem dX9_named_26 : decode cX9_named 26 = .ok (.getfield 186, 3) := by decide +kernel
theorem dX9_named_29 : decode cX9_named 29 = .ok (.invokestatic 257, 3) := by decide +kernel
theorem dX9_named_32 : decode cX9_named 32 = .ok (.lstore_n 2, 1) := by decide +kernel
theorem dX9_named_33 : decode cX9_named 33 = .ok (.iconst 0, 1) := by decide +kernel
theorem dX9_named_34 : decode cX9_named 34 = .ok (.istore 4, 2) := by decide +kernel
theorem dX9_named_36 : decode cX9_named 36 = .ok (.iload 4, 2) := by decide +kernel
theorem dX9_named_38 : decode cX9_named 38 = .ok (.aload_n 0, 1) := by decide +kernel
theorem dX9_named_39 : decode cX9_named 39 = .ok (.getfield 19, 3) := by decide +kernel
theorem dX9_named_42 : decode cX9_named 42 = .ok (.getfield 102, 3) := by decide +kernel
theorem dX9_named_45 : decode cX9_named 45 = .ok (.if_icmp .ge 83, 3) := by decide +kernel
theorem dX9_named_48 : decode cX9_named 48 = .ok (.iconst 0, 1) := by decide +kernel
theorem dX9_named_49 : decode cX9_named 49 = .ok (.istore 5, 2) := by decide +kernel
theorem dX9_named_51 : decode cX9_named 51 = .ok (.iload 5, 2) := by decide +kernel
theorem dX9_named_53 : decode cX9_named 53 = .ok (.aload_n 0, 1) := by decide +kernel
theorem dX9_named_54 : decode cX9_named 54 = .ok (.getfield 19, 3) := by decide +kernel
theorem dX9_named_57 : decode cX9_named 57 = .ok (.getfield 102, 3) := by decide +kernel
theorem dX9_named_60 : decode cX9_named 60 = .ok (.if_icmp .ge 62, 3) := by decide +kernel
theorem dX9_named_63 : decode cX9_named 63 = .ok (.aload_n 0, 1) := by decide +kernel
theorem dX9_named_64 : decode cX9_named 64 = .ok (.getfield 26, 3) := by decide +kernel
theorem dX9_named_67 : decode cX9_named 67 = .ok (.iload 4, 2) := by decide +kernel
theorem dX9_named_69 : decode cX9_named 69 = .ok (.iload 5, 2) := by decide +kernel
theorem dX9_named_71 : decode cX9_named 71 = .ok (.invokevirtual 246, 3) := by decide +kernel
theorem dX9_named_74 : decode cX9_named 74 = .ok (.aload_n 0, 1) := by decide +kernel
theorem dX9_named_75 : decode cX9_named 75 = .ok (.getfield 26, 3) := by decide +kernel
theorem dX9_named_78 : decode cX9_named 78 = .ok (.getfield 186, 3) := by decide +kernel
theorem dX9_named_81 : decode cX9_named 81 = .ok (.aload_n 0, 1) := by decide +kernel
theorem dX9_named_82 : decode cX9_named 82 = .ok (.getfield 19, 3) := by decide +kernel
theorem dX9_named_85 : decode cX9_named 85 = .ok (.getfield 102, 3) := by decide +kernel
theorem dX9_named_88 : decode cX9_named 88 = .ok (.invokestatic 253, 3) := by decide +kernel
theorem dX9_named_91 : decode cX9_named 91 = .ok (.lstore 6, 2) := by decide +kernel
theorem dX9_named_93 : decode cX9_named 93 = .ok (.ldc2_w 261, 3) := by decide +kernel
theorem dX9_named_96 : decode cX9_named 96 = .ok (.lload 6, 2) := by decide +kernel
theorem dX9_named_98 : decode cX9_named 98 = .ok (.lmul, 1) := by decide +kernel
theorem dX9_named_99 : decode cX9_named 99 = .ok (.iload_n 1, 1) := by decide +kernel
theorem dX9_named_100 : decode cX9_named 100 = .ok (.i2l, 1) := by decide +kernel
theorem dX9_named_101 : decode cX9_named 101 = .ok (.lload_n 2, 1) := by decide +kernel
theorem dX9_named_102 : decode cX9_named 102 = .ok (.lmul, 1) := by decide +kernel
theorem dX9_named_103 : decode cX9_named 103 = .ok (.lcmp, 1) := by decide +kernel
theorem dX9_named_104 : decode cX9_named 104 = .ok (.ifCond .ge 12, 3) := by decide +kernel
theorem dX9_named_107 : decode cX9_named 107 = .ok (.bipush 10, 2) := by decide +kernel
theorem dX9_named_109 : decode cX9_named 109 = .ok (.iload 4, 2) := by decide +kernel
theorem dX9_named_111 : decode cX9_named 111 = .ok (.imul, 1) := by decide +kernel
theorem dX9_named_112 : decode cX9_named 112 = .ok (.iload 5, 2) := by decide +kernel
theorem dX9_named_114 : decode cX9_named 114 = .ok (.iadd, 1) := by decide +kernel
theorem dX9_named_115 : decode cX9_named 115 = .ok (.ireturn, 1) := by decide +kernel
theorem dX9_named_116 : decode cX9_named 116 = .ok (.iinc 5 1, 3) := by decide +kernel
theorem dX9_named_119 : decode cX9_named 119 = .ok (.goto (-68), 3) := by decide +kernel
theorem dX9_named_122 : decode cX9_named 122 = .ok (.iinc 4 1, 3) := by decide +kernel
theorem dX9_named_125 : decode cX9_named 125 = .ok (.goto (-89), 3) := by decide +kernel
theorem dX9_named_128 : decode cX9_named 128 = .ok (.iconst (-1), 1) := by decide +kernel
theorem dX9_named_129 : decode cX9_named 129 = .ok (.ireturn, 1) := by decide +kernel
theorem dX9_keep_0 : decode cX9_keep 0 = .ok (.iload_n 1, 1) := by decide +kernel
theorem dX9_keep_1 : decode cX9_keep 1 = .ok (.ifCond .lt 8, 3) := by decide +kernel
theorem dX9_keep_4 : decode cX9_keep 4 = .ok (.iload_n 1, 1) := by decide +kernel
theorem dX9_keep_5 : decode cX9_keep 5 = .ok (.iconst 2, 1) := by decide +kernel
theorem dX9_keep_6 : decode cX9_keep 6 = .ok (.if_icmp .lt 6, 3) := by decide +kernel
theorem dX9_keep_9 : decode cX9_keep 9 = .ok (.bipush (-2), 2) := by decide +kernel
theorem dX9_keep_11 : decode cX9_keep 11 = .ok (.ireturn, 1) := by decide +kernel
theorem dX9_keep_12 : decode cX9_keep 12 = .ok (.aload_n 0, 1) := by decide +kernel
theorem dX9_keep_13 : decode cX9_keep 13 = .ok (.getfield 30, 3) := by decide +kernel
theorem dX9_keep_16 : decode cX9_keep 16 = .ok (.iload_n 1, 1) := by decide +kernel
theorem dX9_keep_17 : decode cX9_keep 17 = .ok (.aaload, 1) := by decide +kernel
theorem dX9_keep_18 : decode cX9_keep 18 = .ok (.aload_n 0, 1) := by decide +kernel
theorem dX9_keep_19 : decode cX9_keep 19 = .ok (.getfield 26, 3) := by decide +kernel
theorem dX9_keep_22 : decode cX9_keep 22 = .ok (.invokevirtual 263, 3) := by decide +kernel
theorem dX9_keep_25 : decode cX9_keep 25 = .ok (.aload_n 0, 1) := by decide +kernel
theorem dX9_keep_26 : decode cX9_keep 26 = .ok (.getfield 34, 3) := by decide +kernel
theorem dX9_keep_29 : decode cX9_keep 29 = .ok (.iload_n 1, 1) := by decide +kernel
theorem dX9_keep_30 : decode cX9_keep 30 = .ok (.iconst 1, 1) := by decide +kernel
theorem dX9_keep_31 : decode cX9_keep 31 = .ok (.bastore, 1) := by decide +kernel
theorem dX9_keep_32 : decode cX9_keep 32 = .ok (.aload_n 0, 1) := by decide +kernel
theorem dX9_keep_33 : decode cX9_keep 33 = .ok (.getfield 26, 3) := by decide +kernel
theorem dX9_keep_36 : decode cX9_keep 36 = .ok (.getfield 186, 3) := by decide +kernel
theorem dX9_keep_39 : decode cX9_keep 39 = .ok (.ireturn, 1) := by decide +kernel
theorem dX9_back_0 : decode cX9_back 0 = .ok (.iload_n 1, 1) := by decide +kernel
theorem dX9_back_1 : decode cX9_back 1 = .ok (.ifCond .lt 8, 3) := by decide +kernel
theorem dX9_back_4 : decode cX9_back 4 = .ok (.iload_n 1, 1) := by decide +kernel
theorem dX9_back_5 : decode cX9_back 5 = .ok (.iconst 2, 1) := by decide +kernel
theorem dX9_back_6 : decode cX9_back 6 = .ok (.if_icmp .lt 6, 3) := by decide +kernel
theorem dX9_back_9 : decode cX9_back 9 = .ok (.bipush (-2), 2) := by decide +kernel
theorem dX9_back_11 : decode cX9_back 11 = .ok (.ireturn, 1) := by decide +kernel
theorem dX9_back_12 : decode cX9_back 12 = .ok (.aload_n 0, 1) := by decide +kernel
theorem dX9_back_13 : decode cX9_back 13 = .ok (.getfield 34, 3) := by decide +kernel
theorem dX9_back_16 : decode cX9_back 16 = .ok (.iload_n 1, 1) := by decide +kernel
theorem dX9_back_17 : decode cX9_back 17 = .ok (.baload, 1) := by decide +kernel
theorem dX9_back_18 : decode cX9_back 18 = .ok (.ifCond .ne 6, 3) := by decide +kernel
theorem dX9_back_21 : decode cX9_back 21 = .ok (.bipush (-4), 2) := by decide +kernel
theorem dX9_back_23 : decode cX9_back 23 = .ok (.ireturn, 1) := by decide +kernel
theorem dX9_back_24 : decode cX9_back 24 = .ok (.aload_n 0, 1) := by decide +kernel
theorem dX9_back_25 : decode cX9_back 25 = .ok (.getfield 26, 3) := by decide +kernel
theorem dX9_back_28 : decode cX9_back 28 = .ok (.aload_n 0, 1) := by decide +kernel
theorem dX9_back_29 : decode cX9_back 29 = .ok (.getfield 30, 3) := by decide +kernel
theorem dX9_back_32 : decode cX9_back 32 = .ok (.iload_n 1, 1) := by decide +kernel
theorem dX9_back_33 : decode cX9_back 33 = .ok (.aaload, 1) := by decide +kernel
theorem dX9_back_34 : decode cX9_back 34 = .ok (.invokevirtual 263, 3) := by decide +kernel
theorem dX9_back_37 : decode cX9_back 37 = .ok (.aload_n 0, 1) := by decide +kernel
theorem dX9_back_38 : decode cX9_back 38 = .ok (.invokevirtual 119, 3) := by decide +kernel
theorem dX9_back_41 : decode cX9_back 41 = .ok (.aload_n 0, 1) := by decide +kernel
theorem dX9_back_42 : decode cX9_back 42 = .ok (.getfield 26, 3) := by decide +kernel
theorem dX9_back_45 : decode cX9_back 45 = .ok (.getfield 186, 3) := by decide +kernel
theorem dX9_back_48 : decode cX9_back 48 = .ok (.ireturn, 1) := by decide +kernel
theorem dX9_count_0 : decode cX9_count 0 = .ok (.iload_n 1, 1) := by decide +kernel
theorem dX9_count_1 : decode cX9_count 1 = .ok (.tableswitch 83 0 4 #[35, 43, 51, 59, 67], 35) := by decide +kernel
theorem dX9_count_36 : decode cX9_count 36 = .ok (.aload_n 0, 1) := by decide +kernel
theorem dX9_count_37 : decode cX9_count 37 = .ok (.getfield 19, 3) := by decide +kernel
theorem dX9_count_40 : decode cX9_count 40 = .ok (.getfield 102, 3) := by decide +kernel
theorem dX9_count_43 : decode cX9_count 43 = .ok (.ireturn, 1) := by decide +kernel
theorem dX9_count_44 : decode cX9_count 44 = .ok (.aload_n 0, 1) := by decide +kernel
theorem dX9_count_45 : decode cX9_count 45 = .ok (.getfield 19, 3) := by decide +kernel
theorem dX9_count_48 : decode cX9_count 48 = .ok (.getfield 167, 3) := by decide +kernel
theorem dX9_count_51 : decode cX9_count 51 = .ok (.ireturn, 1) := by decide +kernel
theorem dX9_count_52 : decode cX9_count 52 = .ok (.aload_n 0, 1) := by decide +kernel
theorem dX9_count_53 : decode cX9_count 53 = .ok (.getfield 26, 3) := by decide +kernel
theorem dX9_count_56 : decode cX9_count 56 = .ok (.getfield 186, 3) := by decide +kernel
theorem dX9_count_59 : decode cX9_count 59 = .ok (.ireturn, 1) := by decide +kernel
theorem dX9_count_60 : decode cX9_count 60 = .ok (.aload_n 0, 1) := by decide +kernel
theorem dX9_count_61 : decode cX9_count 61 = .ok (.getfield 10, 3) := by decide +kernel
theorem dX9_count_64 : decode cX9_count 64 = .ok (.getfield 93, 3) := by decide +kernel
theorem dX9_count_67 : decode cX9_count 67 = .ok (.ireturn, 1) := by decide +kernel
theorem dX9_count_68 : decode cX9_count 68 = .ok (.aload_n 0, 1) := by decide +kernel
theorem dX9_count_69 : decode cX9_count 69 = .ok (.getfield 26, 3) := by decide +kernel
theorem dX9_count_72 : decode cX9_count 72 = .ok (.getfield 160, 3) := by decide +kernel
theorem dX9_count_75 : decode cX9_count 75 = .ok (.ifCond .eq 7, 3) := by decide +kernel
theorem dX9_count_78 : decode cX9_count 78 = .ok (.iconst 1, 1) := by decide +kernel
theorem dX9_count_79 : decode cX9_count 79 = .ok (.goto 4, 3) := by decide +kernel
theorem dX9_count_82 : decode cX9_count 82 = .ok (.iconst 0, 1) := by decide +kernel
theorem dX9_count_83 : decode cX9_count 83 = .ok (.ireturn, 1) := by decide +kernel
theorem dX9_count_84 : decode cX9_count 84 = .ok (.bipush (-3), 2) := by decide +kernel
theorem dX9_count_86 : decode cX9_count 86 = .ok (.ireturn, 1) := by decide +kernel
theorem dX9_isThere_0 : decode cX9_isThere 0 = .ok (.iload_n 1, 1) := by decide +kernel
theorem dX9_isThere_1 : decode cX9_isThere 1 = .ok (.ifCond .lt 18, 3) := by decide +kernel
theorem dX9_isThere_4 : decode cX9_isThere 4 = .ok (.iload_n 1, 1) := by decide +kernel
theorem dX9_isThere_5 : decode cX9_isThere 5 = .ok (.aload_n 0, 1) := by decide +kernel
theorem dX9_isThere_6 : decode cX9_isThere 6 = .ok (.getfield 19, 3) := by decide +kernel
theorem dX9_isThere_9 : decode cX9_isThere 9 = .ok (.getfield 102, 3) := by decide +kernel
theorem dX9_isThere_12 : decode cX9_isThere 12 = .ok (.if_icmp .ge 7, 3) := by decide +kernel
theorem dX9_isThere_15 : decode cX9_isThere 15 = .ok (.iconst 1, 1) := by decide +kernel
theorem dX9_isThere_16 : decode cX9_isThere 16 = .ok (.goto 4, 3) := by decide +kernel
theorem dX9_isThere_19 : decode cX9_isThere 19 = .ok (.iconst 0, 1) := by decide +kernel
theorem dX9_isThere_20 : decode cX9_isThere 20 = .ok (.ireturn, 1) := by decide +kernel
theorem dX9_isRing_0 : decode cX9_isRing 0 = .ok (.iload_n 0, 1) := by decide +kernel
theorem dX9_isRing_1 : decode cX9_isRing 1 = .ok (.ifCond .eq 13, 3) := by decide +kernel
theorem dX9_isRing_4 : decode cX9_isRing 4 = .ok (.iload_n 0, 1) := by decide +kernel
theorem dX9_isRing_5 : decode cX9_isRing 5 = .ok (.iconst 2, 1) := by decide +kernel
theorem dX9_isRing_6 : decode cX9_isRing 6 = .ok (.if_icmp .eq 8, 3) := by decide +kernel
theorem dX9_isRing_9 : decode cX9_isRing 9 = .ok (.iload_n 0, 1) := by decide +kernel
theorem dX9_isRing_10 : decode cX9_isRing 10 = .ok (.iconst 3, 1) := by decide +kernel
theorem dX9_isRing_11 : decode cX9_isRing 11 = .ok (.if_icmp .ne 7, 3) := by decide +kernel
theorem dX9_isRing_14 : decode cX9_isRing 14 = .ok (.iconst 1, 1) := by decide +kernel
theorem dX9_isRing_15 : decode cX9_isRing 15 = .ok (.goto 4, 3) := by decide +kernel
theorem dX9_isRing_18 : decode cX9_isRing 18 = .ok (.iconst 0, 1) := by decide +kernel
theorem dX9_isRing_19 : decode cX9_isRing 19 = .ok (.ireturn, 1) := by decide +kernel
theorem dX9_isPart_0 : decode cX9_isPart 0 = .ok (.iload_n 0, 1) := by decide +kernel
theorem dX9_isPart_1 : decode cX9_isPart 1 = .ok (.ifCond .eq 8, 3) := by decide +kernel
theorem dX9_isPart_4 : decode cX9_isPart 4 = .ok (.iload_n 0, 1) := by decide +kernel
theorem dX9_isPart_5 : decode cX9_isPart 5 = .ok (.iconst 1, 1) := by decide +kernel
theorem dX9_isPart_6 : decode cX9_isPart 6 = .ok (.if_icmp .ne 7, 3) := by decide +kernel
theorem dX9_isPart_9 : decode cX9_isPart 9 = .ok (.iconst 1, 1) := by decide +kernel
theorem dX9_isPart_10 : decode cX9_isPart 10 = .ok (.goto 4, 3) := by decide +kernel
theorem dX9_isPart_13 : decode cX9_isPart 13 = .ok (.iconst 0, 1) := by decide +kernel
theorem dX9_isPart_14 : decode cX9_isPart 14 = .ok (.ireturn, 1) := by decide +kernel
theorem dX9_yesterdayChanged_0 : decode cX9_yesterdayChanged 0 = .ok (.aload_n 0, 1) := by decide +kernel
theorem dX9_yesterdayChanged_1 : decode cX9_yesterdayChanged 1 = .ok (.getfield 43, 3) := by decide +kernel
theorem dX9_yesterdayChanged_4 : decode cX9_yesterdayChanged 4 = .ok (.aload_n 0, 1) := by decide +kernel
theorem dX9_yesterdayChanged_5 : decode cX9_yesterdayChanged 5 = .ok (.getfield 26, 3) := by decide +kernel
theorem dX9_yesterdayChanged_8 : decode cX9_yesterdayChanged 8 = .ok (.getfield 87, 3) := by decide +kernel
theorem dX9_yesterdayChanged_11 : decode cX9_yesterdayChanged 11 = .ok (.invokevirtual 90, 3) := by decide +kernel
theorem dX9_yesterdayChanged_14 : decode cX9_yesterdayChanged 14 = .ok (.iconst 0, 1) := by decide +kernel
theorem dX9_yesterdayChanged_15 : decode cX9_yesterdayChanged 15 = .ok (.istore_n 1, 1) := by decide +kernel
theorem dX9_yesterdayChanged_16 : decode cX9_yesterdayChanged 16 = .ok (.iload_n 1, 1) := by decide +kernel
theorem dX9_yesterdayChanged_17 : decode cX9_yesterdayChanged 17 = .ok (.aload_n 0, 1) := by decide +kernel
theorem dX9_yesterdayChanged_18 : decode cX9_yesterdayChanged 18 = .ok (.getfield 52, 3) := by decide +kernel
theorem dX9_yesterdayChanged_21 : decode cX9_yesterdayChanged 21 = .ok (.arraylength, 1) := by decide +kernel
theorem dX9_yesterdayChanged_22 : decode cX9_yesterdayChanged 22 = .ok (.if_icmp .ge 19, 3) := by decide +kernel
theorem dX9_yesterdayChanged_25 : decode cX9_yesterdayChanged 25 = .ok (.aload_n 0, 1) := by decide +kernel
theorem dX9_yesterdayChanged_26 : decode cX9_yesterdayChanged 26 = .ok (.getfield 52, 3) := by decide +kernel
theorem dX9_yesterdayChanged_29 : decode cX9_yesterdayChanged 29 = .ok (.iload_n 1, 1) := by decide +kernel
theorem dX9_yesterdayChanged_30 : decode cX9_yesterdayChanged 30 = .ok (.aaload, 1) := by decide +kernel
theorem dX9_yesterdayChanged_31 : decode cX9_yesterdayChanged 31 = .ok (.iconst 0, 1) := by decide +kernel
theorem dX9_yesterdayChanged_32 : decode cX9_yesterdayChanged 32 = .ok (.putfield 267, 3) := by decide +kernel
theorem dX9_yesterdayChanged_35 : decode cX9_yesterdayChanged 35 = .ok (.iinc 1 1, 3) := by decide +kernel
theorem dX9_yesterdayChanged_38 : decode cX9_yesterdayChanged 38 = .ok (.goto (-22), 3) := by decide +kernel
theorem dX9_yesterdayChanged_41 : decode cX9_yesterdayChanged 41 = .ok (.return_, 1) := by decide +kernel
theorem dX9_tallyOf_0 : decode cX9_tallyOf 0 = .ok (.aload_n 0, 1) := by decide +kernel
theorem dX9_tallyOf_1 : decode cX9_tallyOf 1 = .ok (.getfield 52, 3) := by decide +kernel
theorem dX9_tallyOf_4 : decode cX9_tallyOf 4 = .ok (.iload_n 1, 1) := by decide +kernel
theorem dX9_tallyOf_5 : decode cX9_tallyOf 5 = .ok (.ifCond .ne 7, 3) := by decide +kernel
theorem dX9_tallyOf_8 : decode cX9_tallyOf 8 = .ok (.iconst 0, 1) := by decide +kernel
theorem dX9_tallyOf_9 : decode cX9_tallyOf 9 = .ok (.goto 13, 3) := by decide +kernel
theorem dX9_tallyOf_12 : decode cX9_tallyOf 12 = .ok (.iload_n 1, 1) := by decide +kernel
theorem dX9_tallyOf_13 : decode cX9_tallyOf 13 = .ok (.iconst 2, 1) := by decide +kernel
theorem dX9_tallyOf_14 : decode cX9_tallyOf 14 = .ok (.if_icmp .ne 7, 3) := by decide +kernel
theorem dX9_tallyOf_17 : decode cX9_tallyOf 17 = .ok (.iconst 1, 1) := by decide +kernel
theorem dX9_tallyOf_18 : decode cX9_tallyOf 18 = .ok (.goto 4, 3) := by decide +kernel
theorem dX9_tallyOf_21 : decode cX9_tallyOf 21 = .ok (.iconst 2, 1) := by decide +kernel
theorem dX9_tallyOf_22 : decode cX9_tallyOf 22 = .ok (.aaload, 1) := by decide +kernel
theorem dX9_tallyOf_23 : decode cX9_tallyOf 23 = .ok (.astore_n 2, 1) := by decide +kernel
theorem dX9_tallyOf_24 : decode cX9_tallyOf 24 = .ok (.aload_n 2, 1) := by decide +kernel
theorem dX9_tallyOf_25 : decode cX9_tallyOf 25 = .ok (.getfield 267, 3) := by decide +kernel
theorem dX9_tallyOf_28 : decode cX9_tallyOf 28 = .ok (.ifCond .ne 7, 3) := by decide +kernel
theorem dX9_tallyOf_31 : decode cX9_tallyOf 31 = .ok (.aload_n 2, 1) := by decide +kernel
theorem dX9_tallyOf_32 : decode cX9_tallyOf 32 = .ok (.invokevirtual 270, 3) := by decide +kernel
theorem dX9_tallyOf_35 : decode cX9_tallyOf 35 = .ok (.aload_n 2, 1) := by decide +kernel
theorem dX9_tallyOf_36 : decode cX9_tallyOf 36 = .ok (.areturn, 1) := by decide +kernel
theorem dX10_init_0 : decode cX10_init 0 = .ok (.aload_n 0, 1) := by decide +kernel
theorem dX10_init_1 : decode cX10_init 1 = .ok (.invokespecial 1, 3) := by decide +kernel
theorem dX10_init_4 : decode cX10_init 4 = .ok (.aload_n 0, 1) := by decide +kernel
theorem dX10_init_5 : decode cX10_init 5 = .ok (.iconst 4, 1) := by decide +kernel
theorem dX10_init_6 : decode cX10_init 6 = .ok (.putfield 7, 3) := by decide +kernel
theorem dX10_init_9 : decode cX10_init 9 = .ok (.aload_n 0, 1) := by decide +kernel
theorem dX10_init_10 : decode cX10_init 10 = .ok (.iconst 3, 1) := by decide +kernel
theorem dX10_init_11 : decode cX10_init 11 = .ok (.putfield 13, 3) := by decide +kernel
theorem dX10_init_14 : decode cX10_init 14 = .ok (.aload_n 0, 1) := by decide +kernel
theorem dX10_init_15 : decode cX10_init 15 = .ok (.bipush 49, 2) := by decide +kernel
theorem dX10_init_17 : decode cX10_init 17 = .ok (.newarray .int, 2) := by decide +kernel
theorem dX10_init_19 : decode cX10_init 19 = .ok (.putfield 16, 3) := by decide +kernel
theorem dX10_init_22 : decode cX10_init 22 = .ok (.aload_n 0, 1) := by decide +kernel
theorem dX10_init_23 : decode cX10_init 23 = .ok (.bipush 49, 2) := by decide +kernel
theorem dX10_init_25 : decode cX10_init 25 = .ok (.newarray .int, 2) := by decide +kernel
theorem dX10_init_27 : decode cX10_init 27 = .ok (.putfield 20, 3) := by decide +kernel
theorem dX10_init_30 : decode cX10_init 30 = .ok (.aload_n 0, 1) := by decide +kernel
theorem dX10_init_31 : decode cX10_init 31 = .ok (.bipush 7, 2) := by decide +kernel
theorem dX10_init_33 : decode cX10_init 33 = .ok (.newarray .int, 2) := by decide +kernel
theorem dX10_init_35 : decode cX10_init 35 = .ok (.putfield 23, 3) := by decide +kernel
theorem dX10_init_38 : decode cX10_init 38 = .ok (.aload_n 0, 1) := by decide +kernel
theorem dX10_init_39 : decode cX10_init 39 = .ok (.bipush 7, 2) := by decide +kernel
theorem dX10_init_41 : decode cX10_init 41 = .ok (.newarray .int, 2) := by decide +kernel
theorem dX10_init_43 : decode cX10_init 43 = .ok (.putfield 26, 3) := by decide +kernel
theorem dX10_init_46 : decode cX10_init 46 = .ok (.aload_n 0, 1) := by decide +kernel
theorem dX10_init_47 : decode cX10_init 47 = .ok (.sipush 200, 3) := by decide +kernel
theorem dX10_init_50 : decode cX10_init 50 = .ok (.newarray .int, 2) := by decide +kernel
theorem dX10_init_52 : decode cX10_init 52 = .ok (.putfield 29, 3) := by decide +kernel
theorem dX10_init_55 : decode cX10_init 55 = .ok (.aload_n 0, 1) := by decide +kernel
theorem dX10_init_56 : decode cX10_init 56 = .ok (.bipush 56, 2) := by decide +kernel
theorem dX10_init_58 : decode cX10_init 58 = .ok (.newarray .int, 2) := by decide +kernel
theorem dX10_init_60 : decode cX10_init 60 = .ok (.putfield 32, 3) := by decide +kernel
theorem dX10_init_63 : decode cX10_init 63 = .ok (.aload_n 0, 1) := by decide +kernel
theorem dX10_init_64 : decode cX10_init 64 = .ok (.sipush 128, 3) := by decide +kernel
theorem dX10_init_67 : decode cX10_init 67 = .ok (.newarray .int, 2) := by decide +kernel
theorem dX10_init_69 : decode cX10_init 69 = .ok (.putfield 35, 3) := by decide +kernel
theorem dX10_init_72 : decode cX10_init 72 = .ok (.aload_n 0, 1) := by decide +kernel
theorem dX10_init_73 : decode cX10_init 73 = .ok (.sipush 256, 3) := by decide +kernel
theorem dX10_init_76 : decode cX10_init 76 = .ok (.newarray .int, 2) := by decide +kernel
theorem dX10_init_78 : decode cX10_init 78 = .ok (.putfield 38, 3) := by decide +kernel
theorem dX10_init_81 : decode cX10_init 81 = .ok (.aload_n 0, 1) := by decide +kernel
theorem dX10_init_82 : decode cX10_init 82 = .ok (.iconst 2, 1) := by decide +kernel
theorem dX10_init_83 : decode cX10_init 83 = .ok (.newarray .boolean, 2) := by decide +kernel
theorem dX10_init_85 : decode cX10_init 85 = .ok (.putfield 41, 3) := by decide +kernel
theorem dX10_init_88 : decode cX10_init 88 = .ok (.aload_n 0, 1) := by decide +kernel
theorem dX10_init_89 : decode cX10_init 89 = .ok (.bipush 7, 2) := by decide +kernel
theorem dX10_init_91 : decode cX10_init 91 = .ok (.newarray .int, 2) := by decide +kernel
theorem dX10_init_93 : decode cX10_init 93 = .ok (.putfield 45, 3) := by decide +kernel
theorem dX10_init_96 : decode cX10_init 96 = .ok (.aload_n 0, 1) := by decide +kernel
theorem dX10_init_97 : decode cX10_init 97 = .ok (.bipush 7, 2) := by decide +kernel
theorem dX10_init_99 : decode cX10_init 99 = .ok (.newarray .int, 2) := by decide +kernel
theorem dX10_init_101 : decode cX10_init 101 = .ok (.putfield 48, 3) := by decide +kernel
theorem dX10_init_104 : decode cX10_init 104 = .ok (.aload_n 0, 1) := by decide +kernel
theorem dX10_init_105 : decode cX10_init 105 = .ok (.sipush 5040, 3) := by decide +kernel
theorem dX10_init_108 : decode cX10_init 108 = .ok (.newarray .boolean, 2) := by decide +kernel
theorem dX10_init_110 : decode cX10_init 110 = .ok (.putfield 51, 3) := by decide +kernel
theorem dX10_init_113 : decode cX10_init 113 = .ok (.aload_n 0, 1) := by decide +kernel
theorem dX10_init_114 : decode cX10_init 114 = .ok (.sipush 5040, 3) := by decide +kernel
theorem dX10_init_117 : decode cX10_init 117 = .ok (.newarray .int, 2) := by decide +kernel
theorem dX10_init_119 : decode cX10_init 119 = .ok (.putfield 54, 3) := by decide +kernel
theorem dX10_init_122 : decode cX10_init 122 = .ok (.aload_n 0, 1) := by decide +kernel
theorem dX10_init_123 : decode cX10_init 123 = .ok (.bipush 120, 2) := by decide +kernel
theorem dX10_init_125 : decode cX10_init 125 = .ok (.newarray .int, 2) := by decide +kernel
theorem dX10_init_127 : decode cX10_init 127 = .ok (.putfield 57, 3) := by decide +kernel
theorem dX10_init_130 : decode cX10_init 130 = .ok (.aload_n 0, 1) := by decide +kernel
theorem dX10_init_131 : decode cX10_init 131 = .ok (.bipush 120, 2) := by decide +kernel
theorem dX10_init_133 : decode cX10_init 133 = .ok (.newarray .int, 2) := by decide +kernel
theorem dX10_init_135 : decode cX10_init 135 = .ok (.putfield 60, 3) := by decide +kernel
theorem dX10_init_138 : decode cX10_init 138 = .ok (.aload_n 0, 1) := by decide +kernel
theorem dX10_init_139 : decode cX10_init 139 = .ok (.invokevirtual 63, 3) := by decide +kernel
theorem dX10_init_142 : decode cX10_init 142 = .ok (.aload_n 0, 1) := by decide +kernel
theorem dX10_init_143 : decode cX10_init 143 = .ok (.invokevirtual 66, 3) := by decide +kernel
theorem dX10_init_146 : decode cX10_init 146 = .ok (.return_, 1) := by decide +kernel
theorem dX10_in_0 : decode cX10_in 0 = .ok (.iload_n 0, 1) := by decide +kernel
theorem dX10_in_1 : decode cX10_in 1 = .ok (.iload_n 1, 1) := by decide +kernel
theorem dX10_in_2 : decode cX10_in 2 = .ok (.if_icmp .lt 12, 3) := by decide +kernel
theorem dX10_in_5 : decode cX10_in 5 = .ok (.iload_n 0, 1) := by decide +kernel
theorem dX10_in_6 : decode cX10_in 6 = .ok (.iload_n 2, 1) := by decide +kernel
theorem dX10_in_7 : decode cX10_in 7 = .ok (.if_icmp .gt 7, 3) := by decide +kernel
theorem dX10_in_10 : decode cX10_in 10 = .ok (.iconst 1, 1) := by decide +kernel
theorem dX10_in_11 : decode cX10_in 11 = .ok (.goto 4, 3) := by decide +kernel
theorem dX10_in_14 : decode cX10_in 14 = .ok (.iconst 0, 1) := by decide +kernel
theorem dX10_in_15 : decode cX10_in 15 = .ok (.ireturn, 1) := by decide +kernel
theorem dX10_isMonk_0 : decode cX10_isMonk 0 = .ok (.iload_n 1, 1) := by decide +kernel
theorem dX10_isMonk_1 : decode cX10_isMonk 1 = .ok (.iconst 0, 1) := by decide +kernel
theorem dX10_isMonk_2 : decode cX10_isMonk 2 = .ok (.aload_n 0, 1) := by decide +kernel
theorem dX10_isMonk_3 : decode cX10_isMonk 3 = .ok (.getfield 7, 3) := by decide +kernel
theorem dX10_isMonk_6 : decode cX10_isMonk 6 = .ok (.iconst 1, 1) := by decide +kernel
theorem dX10_isMonk_7 : decode cX10_isMonk 7 = .ok (.isub, 1) := by decide +kernel
theorem dX10_isMonk_8 : decode cX10_isMonk 8 = .ok (.invokestatic 69, 3) := by decide +kernel
theorem dX10_isMonk_11 : decode cX10_isMonk 11 = .ok (.ireturn, 1) := by decide +kernel
theorem dX10_plain_0 : decode cX10_plain 0 = .ok (.iconst 0, 1) := by decide +kernel
theorem dX10_plain_1 : decode cX10_plain 1 = .ok (.istore_n 1, 1) := by decide +kernel
theorem dX10_plain_2 : decode cX10_plain 2 = .ok (.iload_n 1, 1) := by decide +kernel
