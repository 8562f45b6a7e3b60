theorem dX6_numbersOf_32 : decode cX6_numbersOf 32 = .ok (.iconst 3, 1) := by decide +kernel
theorem dX6_numbersOf_33 : decode cX6_numbersOf 33 = .ok (.ireturn, 1) := by decide +kernel
theorem dX6_numbersOf_34 : decode cX6_numbersOf 34 = .ok (.iconst 2, 1) := by decide +kernel
theorem dX6_numbersOf_35 : decode cX6_numbersOf 35 = .ok (.ireturn, 1) := by decide +kernel
theorem dX6_numbersOf_36 : decode cX6_numbersOf 36 = .ok (.iconst 1, 1) := by decide +kernel
theorem dX6_numbersOf_37 : decode cX6_numbersOf 37 = .ok (.ireturn, 1) := by decide +kernel
theorem dX6_fits_0 : decode cX6_fits 0 = .ok (.iload_n 0, 1) := by decide +kernel
theorem dX6_fits_1 : decode cX6_fits 1 = .ok (.ifCond .ne 20, 3) := by decide +kernel
theorem dX6_fits_4 : decode cX6_fits 4 = .ok (.iload_n 2, 1) := by decide +kernel
theorem dX6_fits_5 : decode cX6_fits 5 = .ok (.iconst 2, 1) := by decide +kernel
theorem dX6_fits_6 : decode cX6_fits 6 = .ok (.if_icmp .lt 13, 3) := by decide +kernel
theorem dX6_fits_9 : decode cX6_fits 9 = .ok (.iload_n 2, 1) := by decide +kernel
theorem dX6_fits_10 : decode cX6_fits 10 = .ok (.bipush 7, 2) := by decide +kernel
theorem dX6_fits_12 : decode cX6_fits 12 = .ok (.if_icmp .gt 7, 3) := by decide +kernel
theorem dX6_fits_15 : decode cX6_fits 15 = .ok (.iconst 1, 1) := by decide +kernel
theorem dX6_fits_16 : decode cX6_fits 16 = .ok (.goto 4, 3) := by decide +kernel
theorem dX6_fits_19 : decode cX6_fits 19 = .ok (.iconst 0, 1) := by decide +kernel
theorem dX6_fits_20 : decode cX6_fits 20 = .ok (.ireturn, 1) := by decide +kernel
theorem dX6_fits_21 : decode cX6_fits 21 = .ok (.iload_n 0, 1) := by decide +kernel
theorem dX6_fits_22 : decode cX6_fits 22 = .ok (.bipush 7, 2) := by decide +kernel
theorem dX6_fits_24 : decode cX6_fits 24 = .ok (.if_icmp .ne 8, 3) := by decide +kernel
theorem dX6_fits_27 : decode cX6_fits 27 = .ok (.iload_n 2, 1) := by decide +kernel
theorem dX6_fits_28 : decode cX6_fits 28 = .ok (.invokestatic 90, 3) := by decide +kernel
theorem dX6_fits_31 : decode cX6_fits 31 = .ok (.ireturn, 1) := by decide +kernel
theorem dX6_fits_32 : decode cX6_fits 32 = .ok (.iload_n 1, 1) := by decide +kernel
theorem dX6_fits_33 : decode cX6_fits 33 = .ok (.iconst 3, 1) := by decide +kernel
theorem dX6_fits_34 : decode cX6_fits 34 = .ok (.if_icmp .ne 19, 3) := by decide +kernel
theorem dX6_fits_37 : decode cX6_fits 37 = .ok (.iload_n 2, 1) := by decide +kernel
theorem dX6_fits_38 : decode cX6_fits 38 = .ok (.ifCond .lt 13, 3) := by decide +kernel
theorem dX6_fits_41 : decode cX6_fits 41 = .ok (.iload_n 2, 1) := by decide +kernel
theorem dX6_fits_42 : decode cX6_fits 42 = .ok (.bipush 9, 2) := by decide +kernel
theorem dX6_fits_44 : decode cX6_fits 44 = .ok (.if_icmp .gt 7, 3) := by decide +kernel
theorem dX6_fits_47 : decode cX6_fits 47 = .ok (.iconst 1, 1) := by decide +kernel
theorem dX6_fits_48 : decode cX6_fits 48 = .ok (.goto 4, 3) := by decide +kernel
theorem dX6_fits_51 : decode cX6_fits 51 = .ok (.iconst 0, 1) := by decide +kernel
theorem dX6_fits_52 : decode cX6_fits 52 = .ok (.ireturn, 1) := by decide +kernel
theorem dX6_fits_53 : decode cX6_fits 53 = .ok (.iload_n 2, 1) := by decide +kernel
theorem dX6_fits_54 : decode cX6_fits 54 = .ok (.ifCond .lt 12, 3) := by decide +kernel
theorem dX6_fits_57 : decode cX6_fits 57 = .ok (.iload_n 2, 1) := by decide +kernel
theorem dX6_fits_58 : decode cX6_fits 58 = .ok (.iload_n 3, 1) := by decide +kernel
theorem dX6_fits_59 : decode cX6_fits 59 = .ok (.if_icmp .ge 7, 3) := by decide +kernel
theorem dX6_fits_62 : decode cX6_fits 62 = .ok (.iconst 1, 1) := by decide +kernel
theorem dX6_fits_63 : decode cX6_fits 63 = .ok (.goto 4, 3) := by decide +kernel
theorem dX6_fits_66 : decode cX6_fits 66 = .ok (.iconst 0, 1) := by decide +kernel
theorem dX6_fits_67 : decode cX6_fits 67 = .ok (.ireturn, 1) := by decide +kernel
theorem dX7_init_0 : decode cX7_init 0 = .ok (.aload_n 0, 1) := by decide +kernel
theorem dX7_init_1 : decode cX7_init 1 = .ok (.invokespecial 3, 3) := by decide +kernel
theorem dX7_init_4 : decode cX7_init 4 = .ok (.aload_n 0, 1) := by decide +kernel
theorem dX7_init_5 : decode cX7_init 5 = .ok (.bipush 7, 2) := by decide +kernel
theorem dX7_init_7 : decode cX7_init 7 = .ok (.newarray .int, 2) := by decide +kernel
theorem dX7_init_9 : decode cX7_init 9 = .ok (.putfield 9, 3) := by decide +kernel
theorem dX7_init_12 : decode cX7_init 12 = .ok (.aload_n 0, 1) := by decide +kernel
theorem dX7_init_13 : decode cX7_init 13 = .ok (.bipush 7, 2) := by decide +kernel
theorem dX7_init_15 : decode cX7_init 15 = .ok (.newarray .int, 2) := by decide +kernel
theorem dX7_init_17 : decode cX7_init 17 = .ok (.putfield 15, 3) := by decide +kernel
theorem dX7_init_20 : decode cX7_init 20 = .ok (.aload_n 0, 1) := by decide +kernel
theorem dX7_init_21 : decode cX7_init 21 = .ok (.bipush 79, 2) := by decide +kernel
theorem dX7_init_23 : decode cX7_init 23 = .ok (.newarray .long, 2) := by decide +kernel
theorem dX7_init_25 : decode cX7_init 25 = .ok (.putfield 18, 3) := by decide +kernel
theorem dX7_init_28 : decode cX7_init 28 = .ok (.aload_n 0, 1) := by decide +kernel
theorem dX7_init_29 : decode cX7_init 29 = .ok (.bipush 79, 2) := by decide +kernel
theorem dX7_init_31 : decode cX7_init 31 = .ok (.newarray .long, 2) := by decide +kernel
theorem dX7_init_33 : decode cX7_init 33 = .ok (.putfield 22, 3) := by decide +kernel
theorem dX7_init_36 : decode cX7_init 36 = .ok (.aload_n 0, 1) := by decide +kernel
theorem dX7_init_37 : decode cX7_init 37 = .ok (.aload_n 1, 1) := by decide +kernel
theorem dX7_init_38 : decode cX7_init 38 = .ok (.putfield 25, 3) := by decide +kernel
theorem dX7_init_41 : decode cX7_init 41 = .ok (.return_, 1) := by decide +kernel
theorem dX7_from_0 : decode cX7_from 0 = .ok (.aload_n 0, 1) := by decide +kernel
theorem dX7_from_1 : decode cX7_from 1 = .ok (.iconst 0, 1) := by decide +kernel
theorem dX7_from_2 : decode cX7_from 2 = .ok (.putfield 29, 3) := by decide +kernel
theorem dX7_from_5 : decode cX7_from 5 = .ok (.aload_n 0, 1) := by decide +kernel
theorem dX7_from_6 : decode cX7_from 6 = .ok (.iconst (-1), 1) := by decide +kernel
theorem dX7_from_7 : decode cX7_from 7 = .ok (.putfield 33, 3) := by decide +kernel
theorem dX7_from_10 : decode cX7_from 10 = .ok (.aload_n 0, 1) := by decide +kernel
theorem dX7_from_11 : decode cX7_from 11 = .ok (.iconst (-1), 1) := by decide +kernel
theorem dX7_from_12 : decode cX7_from 12 = .ok (.putfield 36, 3) := by decide +kernel
theorem dX7_from_15 : decode cX7_from 15 = .ok (.iconst 0, 1) := by decide +kernel
theorem dX7_from_16 : decode cX7_from 16 = .ok (.istore_n 3, 1) := by decide +kernel
theorem dX7_from_17 : decode cX7_from 17 = .ok (.iload_n 3, 1) := by decide +kernel
theorem dX7_from_18 : decode cX7_from 18 = .ok (.bipush 79, 2) := by decide +kernel
theorem dX7_from_20 : decode cX7_from 20 = .ok (.if_icmp .ge 23, 3) := by decide +kernel
theorem dX7_from_23 : decode cX7_from 23 = .ok (.aload_n 0, 1) := by decide +kernel
theorem dX7_from_24 : decode cX7_from 24 = .ok (.getfield 18, 3) := by decide +kernel
theorem dX7_from_27 : decode cX7_from 27 = .ok (.iload_n 3, 1) := by decide +kernel
theorem dX7_from_28 : decode cX7_from 28 = .ok (.lconst 0, 1) := by decide +kernel
theorem dX7_from_29 : decode cX7_from 29 = .ok (.lastore, 1) := by decide +kernel
theorem dX7_from_30 : decode cX7_from 30 = .ok (.aload_n 0, 1) := by decide +kernel
theorem dX7_from_31 : decode cX7_from 31 = .ok (.getfield 22, 3) := by decide +kernel
theorem dX7_from_34 : decode cX7_from 34 = .ok (.iload_n 3, 1) := by decide +kernel
theorem dX7_from_35 : decode cX7_from 35 = .ok (.lconst 0, 1) := by decide +kernel
theorem dX7_from_36 : decode cX7_from 36 = .ok (.lastore, 1) := by decide +kernel
theorem dX7_from_37 : decode cX7_from 37 = .ok (.iinc 3 1, 3) := by decide +kernel
theorem dX7_from_40 : decode cX7_from 40 = .ok (.goto (-23), 3) := by decide +kernel
theorem dX7_from_43 : decode cX7_from 43 = .ok (.aload_n 0, 1) := by decide +kernel
theorem dX7_from_44 : decode cX7_from 44 = .ok (.aload_n 1, 1) := by decide +kernel
theorem dX7_from_45 : decode cX7_from 45 = .ok (.aload_n 0, 1) := by decide +kernel
theorem dX7_from_46 : decode cX7_from 46 = .ok (.getfield 25, 3) := by decide +kernel
theorem dX7_from_49 : decode cX7_from 49 = .ok (.getfield 39, 3) := by decide +kernel
theorem dX7_from_52 : decode cX7_from 52 = .ok (.getfield 45, 3) := by decide +kernel
theorem dX7_from_55 : decode cX7_from 55 = .ok (.invokestatic 50, 3) := by decide +kernel
theorem dX7_from_58 : decode cX7_from 58 = .ok (.invokevirtual 56, 3) := by decide +kernel
theorem dX7_from_61 : decode cX7_from 61 = .ok (.iconst 0, 1) := by decide +kernel
theorem dX7_from_62 : decode cX7_from 62 = .ok (.istore_n 3, 1) := by decide +kernel
theorem dX7_from_63 : decode cX7_from 63 = .ok (.iload_n 3, 1) := by decide +kernel
theorem dX7_from_64 : decode cX7_from 64 = .ok (.sipush 5040, 3) := by decide +kernel
theorem dX7_from_67 : decode cX7_from 67 = .ok (.if_icmp .ge 29, 3) := by decide +kernel
theorem dX7_from_70 : decode cX7_from 70 = .ok (.aload_n 0, 1) := by decide +kernel
theorem dX7_from_71 : decode cX7_from 71 = .ok (.invokevirtual 60, 3) := by decide +kernel
theorem dX7_from_74 : decode cX7_from 74 = .ok (.istore 4, 2) := by decide +kernel
theorem dX7_from_76 : decode cX7_from 76 = .ok (.iload 4, 2) := by decide +kernel
theorem dX7_from_78 : decode cX7_from 78 = .ok (.iconst (-1), 1) := by decide +kernel
theorem dX7_from_79 : decode cX7_from 79 = .ok (.if_icmp .ne 4, 3) := by decide +kernel
theorem dX7_from_82 : decode cX7_from 82 = .ok (.return_, 1) := by decide +kernel
theorem dX7_from_83 : decode cX7_from 83 = .ok (.aload_n 0, 1) := by decide +kernel
theorem dX7_from_84 : decode cX7_from 84 = .ok (.iload 4, 2) := by decide +kernel
theorem dX7_from_86 : decode cX7_from 86 = .ok (.iload_n 2, 1) := by decide +kernel
theorem dX7_from_87 : decode cX7_from 87 = .ok (.invokevirtual 64, 3) := by decide +kernel
theorem dX7_from_90 : decode cX7_from 90 = .ok (.iinc 3 1, 3) := by decide +kernel
theorem dX7_from_93 : decode cX7_from 93 = .ok (.goto (-30), 3) := by decide +kernel
theorem dX7_from_96 : decode cX7_from 96 = .ok (.return_, 1) := by decide +kernel
theorem dX7_reach_0 : decode cX7_reach 0 = .ok (.lconst 1, 1) := by decide +kernel
theorem dX7_reach_1 : decode cX7_reach 1 = .ok (.iload_n 1, 1) := by decide +kernel
theorem dX7_reach_2 : decode cX7_reach 2 = .ok (.bipush 63, 2) := by decide +kernel
theorem dX7_reach_4 : decode cX7_reach 4 = .ok (.iand, 1) := by decide +kernel
theorem dX7_reach_5 : decode cX7_reach 5 = .ok (.lshl, 1) := by decide +kernel
theorem dX7_reach_6 : decode cX7_reach 6 = .ok (.lstore_n 2, 1) := by decide +kernel
theorem dX7_reach_7 : decode cX7_reach 7 = .ok (.aload_n 0, 1) := by decide +kernel
theorem dX7_reach_8 : decode cX7_reach 8 = .ok (.getfield 18, 3) := by decide +kernel
theorem dX7_reach_11 : decode cX7_reach 11 = .ok (.iload_n 1, 1) := by decide +kernel
theorem dX7_reach_12 : decode cX7_reach 12 = .ok (.bipush 6, 2) := by decide +kernel
theorem dX7_reach_14 : decode cX7_reach 14 = .ok (.ishr, 1) := by decide +kernel
theorem dX7_reach_15 : decode cX7_reach 15 = .ok (.laload, 1) := by decide +kernel
theorem dX7_reach_16 : decode cX7_reach 16 = .ok (.lload_n 2, 1) := by decide +kernel
theorem dX7_reach_17 : decode cX7_reach 17 = .ok (.land, 1) := by decide +kernel
theorem dX7_reach_18 : decode cX7_reach 18 = .ok (.lconst 0, 1) := by decide +kernel
theorem dX7_reach_19 : decode cX7_reach 19 = .ok (.lcmp, 1) := by decide +kernel
theorem dX7_reach_20 : decode cX7_reach 20 = .ok (.ifCond .ne 29, 3) := by decide +kernel
theorem dX7_reach_23 : decode cX7_reach 23 = .ok (.aload_n 0, 1) := by decide +kernel
theorem dX7_reach_24 : decode cX7_reach 24 = .ok (.getfield 18, 3) := by decide +kernel
theorem dX7_reach_27 : decode cX7_reach 27 = .ok (.iload_n 1, 1) := by decide +kernel
theorem dX7_reach_28 : decode cX7_reach 28 = .ok (.bipush 6, 2) := by decide +kernel
theorem dX7_reach_30 : decode cX7_reach 30 = .ok (.ishr, 1) := by decide +kernel
theorem dX7_reach_31 : decode cX7_reach 31 = .ok (.dup2, 1) := by decide +kernel
theorem dX7_reach_32 : decode cX7_reach 32 = .ok (.laload, 1) := by decide +kernel
theorem dX7_reach_33 : decode cX7_reach 33 = .ok (.lload_n 2, 1) := by decide +kernel
theorem dX7_reach_34 : decode cX7_reach 34 = .ok (.lor, 1) := by decide +kernel
theorem dX7_reach_35 : decode cX7_reach 35 = .ok (.lastore, 1) := by decide +kernel
theorem dX7_reach_36 : decode cX7_reach 36 = .ok (.aload_n 0, 1) := by decide +kernel
theorem dX7_reach_37 : decode cX7_reach 37 = .ok (.getfield 22, 3) := by decide +kernel
theorem dX7_reach_40 : decode cX7_reach 40 = .ok (.iload_n 1, 1) := by decide +kernel
theorem dX7_reach_41 : decode cX7_reach 41 = .ok (.bipush 6, 2) := by decide +kernel
theorem dX7_reach_43 : decode cX7_reach 43 = .ok (.ishr, 1) := by decide +kernel
theorem dX7_reach_44 : decode cX7_reach 44 = .ok (.dup2, 1) := by decide +kernel
theorem dX7_reach_45 : decode cX7_reach 45 = .ok (.laload, 1) := by decide +kernel
theorem dX7_reach_46 : decode cX7_reach 46 = .ok (.lload_n 2, 1) := by decide +kernel
theorem dX7_reach_47 : decode cX7_reach 47 = .ok (.lor, 1) := by decide +kernel
theorem dX7_reach_48 : decode cX7_reach 48 = .ok (.lastore, 1) := by decide +kernel
theorem dX7_reach_49 : decode cX7_reach 49 = .ok (.return_, 1) := by decide +kernel
theorem dX7_takeWaiting_0 : decode cX7_takeWaiting 0 = .ok (.iconst 0, 1) := by decide +kernel
theorem dX7_takeWaiting_1 : decode cX7_takeWaiting 1 = .ok (.istore_n 1, 1) := by decide +kernel
theorem dX7_takeWaiting_2 : decode cX7_takeWaiting 2 = .ok (.iload_n 1, 1) := by decide +kernel
theorem dX7_takeWaiting_3 : decode cX7_takeWaiting 3 = .ok (.bipush 79, 2) := by decide +kernel
theorem dX7_takeWaiting_5 : decode cX7_takeWaiting 5 = .ok (.if_icmp .ge 54, 3) := by decide +kernel
theorem dX7_takeWaiting_8 : decode cX7_takeWaiting 8 = .ok (.aload_n 0, 1) := by decide +kernel
theorem dX7_takeWaiting_9 : decode cX7_takeWaiting 9 = .ok (.getfield 22, 3) := by decide +kernel
theorem dX7_takeWaiting_12 : decode cX7_takeWaiting 12 = .ok (.iload_n 1, 1) := by decide +kernel
theorem dX7_takeWaiting_13 : decode cX7_takeWaiting 13 = .ok (.laload, 1) := by decide +kernel
theorem dX7_takeWaiting_14 : decode cX7_takeWaiting 14 = .ok (.lconst 0, 1) := by decide +kernel
theorem dX7_takeWaiting_15 : decode cX7_takeWaiting 15 = .ok (.lcmp, 1) := by decide +kernel
theorem dX7_takeWaiting_16 : decode cX7_takeWaiting 16 = .ok (.ifCond .eq 37, 3) := by decide +kernel
theorem dX7_takeWaiting_19 : decode cX7_takeWaiting 19 = .ok (.iload_n 1, 1) := by decide +kernel
theorem dX7_takeWaiting_20 : decode cX7_takeWaiting 20 = .ok (.bipush 64, 2) := by decide +kernel
theorem dX7_takeWaiting_22 : decode cX7_takeWaiting 22 = .ok (.imul, 1) := by decide +kernel
theorem dX7_takeWaiting_23 : decode cX7_takeWaiting 23 = .ok (.aload_n 0, 1) := by decide +kernel
theorem dX7_takeWaiting_24 : decode cX7_takeWaiting 24 = .ok (.getfield 22, 3) := by decide +kernel
theorem dX7_takeWaiting_27 : decode cX7_takeWaiting 27 = .ok (.iload_n 1, 1) := by decide +kernel
theorem dX7_takeWaiting_28 : decode cX7_takeWaiting 28 = .ok (.laload, 1) := by decide +kernel
theorem dX7_takeWaiting_29 : decode cX7_takeWaiting 29 = .ok (.invokestatic 68, 3) := by decide +kernel
theorem dX7_takeWaiting_32 : decode cX7_takeWaiting 32 = .ok (.iadd, 1) := by decide +kernel
theorem dX7_takeWaiting_33 : decode cX7_takeWaiting 33 = .ok (.istore_n 2, 1) := by decide +kernel
theorem dX7_takeWaiting_34 : decode cX7_takeWaiting 34 = .ok (.aload_n 0, 1) := by decide +kernel
theorem dX7_takeWaiting_35 : decode cX7_takeWaiting 35 = .ok (.getfield 22, 3) := by decide +kernel
theorem dX7_takeWaiting_38 : decode cX7_takeWaiting 38 = .ok (.iload_n 1, 1) := by decide +kernel
theorem dX7_takeWaiting_39 : decode cX7_takeWaiting 39 = .ok (.dup2, 1) := by decide +kernel
theorem dX7_takeWaiting_40 : decode cX7_takeWaiting 40 = .ok (.laload, 1) := by decide +kernel
theorem dX7_takeWaiting_41 : decode cX7_takeWaiting 41 = .ok (.aload_n 0, 1) := by decide +kernel
theorem dX7_takeWaiting_42 : decode cX7_takeWaiting 42 = .ok (.getfield 22, 3) := by decide +kernel
theorem dX7_takeWaiting_45 : decode cX7_takeWaiting 45 = .ok (.iload_n 1, 1) := by decide +kernel
theorem dX7_takeWaiting_46 : decode cX7_takeWaiting 46 = .ok (.laload, 1) := by decide +kernel
theorem dX7_takeWaiting_47 : decode cX7_takeWaiting 47 = .ok (.lconst 1, 1) := by decide +kernel
theorem dX7_takeWaiting_48 : decode cX7_takeWaiting 48 = .ok (.lsub, 1) := by decide +kernel
theorem dX7_takeWaiting_49 : decode cX7_takeWaiting 49 = .ok (.land, 1) := by decide +kernel
theorem dX7_takeWaiting_50 : decode cX7_takeWaiting 50 = .ok (.lastore, 1) := by decide +kernel
theorem dX7_takeWaiting_51 : decode cX7_takeWaiting 51 = .ok (.iload_n 2, 1) := by decide +kernel
theorem dX7_takeWaiting_52 : decode cX7_takeWaiting 52 = .ok (.ireturn, 1) := by decide +kernel
theorem dX7_takeWaiting_53 : decode cX7_takeWaiting 53 = .ok (.iinc 1 1, 3) := by decide +kernel
theorem dX7_takeWaiting_56 : decode cX7_takeWaiting 56 = .ok (.goto (-54), 3) := by decide +kernel
theorem dX7_takeWaiting_59 : decode cX7_takeWaiting 59 = .ok (.iconst (-1), 1) := by decide +kernel
theorem dX7_takeWaiting_60 : decode cX7_takeWaiting 60 = .ok (.ireturn, 1) := by decide +kernel
theorem dX7_lookAt_0 : decode cX7_lookAt 0 = .ok (.aload_n 0, 1) := by decide +kernel
theorem dX7_lookAt_1 : decode cX7_lookAt 1 = .ok (.getfield 25, 3) := by decide +kernel
theorem dX7_lookAt_4 : decode cX7_lookAt 4 = .ok (.getfield 39, 3) := by decide +kernel
theorem dX7_lookAt_7 : decode cX7_lookAt 7 = .ok (.getfield 45, 3) := by decide +kernel
theorem dX7_lookAt_10 : decode cX7_lookAt 10 = .ok (.istore_n 3, 1) := by decide +kernel
theorem dX7_lookAt_11 : decode cX7_lookAt 11 = .ok (.aload_n 0, 1) := by decide +kernel
theorem dX7_lookAt_12 : decode cX7_lookAt 12 = .ok (.getfield 9, 3) := by decide +kernel
theorem dX7_lookAt_15 : decode cX7_lookAt 15 = .ok (.iload_n 3, 1) := by decide +kernel
theorem dX7_lookAt_16 : decode cX7_lookAt 16 = .ok (.iload_n 1, 1) := by decide +kernel
theorem dX7_lookAt_17 : decode cX7_lookAt 17 = .ok (.invokestatic 74, 3) := by decide +kernel
theorem dX7_lookAt_20 : decode cX7_lookAt 20 = .ok (.aload_n 0, 1) := by decide +kernel
theorem dX7_lookAt_21 : decode cX7_lookAt 21 = .ok (.getfield 25, 3) := by decide +kernel
theorem dX7_lookAt_24 : decode cX7_lookAt 24 = .ok (.aload_n 0, 1) := by decide +kernel
theorem dX7_lookAt_25 : decode cX7_lookAt 25 = .ok (.getfield 9, 3) := by decide +kernel
theorem dX7_lookAt_28 : decode cX7_lookAt 28 = .ok (.iload_n 2, 1) := by decide +kernel
theorem dX7_lookAt_29 : decode cX7_lookAt 29 = .ok (.bipush 70, 2) := by decide +kernel
theorem dX7_lookAt_31 : decode cX7_lookAt 31 = .ok (.invokevirtual 78, 3) := by decide +kernel
theorem dX7_lookAt_34 : decode cX7_lookAt 34 = .ok (.aload_n 0, 1) := by decide +kernel
theorem dX7_lookAt_35 : decode cX7_lookAt 35 = .ok (.getfield 25, 3) := by decide +kernel
theorem dX7_lookAt_38 : decode cX7_lookAt 38 = .ok (.getfield 81, 3) := by decide +kernel
theorem dX7_lookAt_41 : decode cX7_lookAt 41 = .ok (.ifCond .ne 8, 3) := by decide +kernel
theorem dX7_lookAt_44 : decode cX7_lookAt 44 = .ok (.aload_n 0, 1) := by decide +kernel
theorem dX7_lookAt_45 : decode cX7_lookAt 45 = .ok (.iload_n 1, 1) := by decide +kernel
theorem dX7_lookAt_46 : decode cX7_lookAt 46 = .ok (.invokevirtual 84, 3) := by decide +kernel
theorem dX7_lookAt_49 : decode cX7_lookAt 49 = .ok (.iconst 0, 1) := by decide +kernel
theorem dX7_lookAt_50 : decode cX7_lookAt 50 = .ok (.istore 4, 2) := by decide +kernel
theorem dX7_lookAt_52 : decode cX7_lookAt 52 = .ok (.iload 4, 2) := by decide +kernel
theorem dX7_lookAt_54 : decode cX7_lookAt 54 = .ok (.aload_n 0, 1) := by decide +kernel
theorem dX7_lookAt_55 : decode cX7_lookAt 55 = .ok (.getfield 25, 3) := by decide +kernel
theorem dX7_lookAt_58 : decode cX7_lookAt 58 = .ok (.getfield 81, 3) := by decide +kernel
theorem dX7_lookAt_61 : decode cX7_lookAt 61 = .ok (.if_icmp .ge 49, 3) := by decide +kernel
theorem dX7_lookAt_64 : decode cX7_lookAt 64 = .ok (.aload_n 0, 1) := by decide +kernel
theorem dX7_lookAt_65 : decode cX7_lookAt 65 = .ok (.getfield 9, 3) := by decide +kernel
theorem dX7_lookAt_68 : decode cX7_lookAt 68 = .ok (.iconst 0, 1) := by decide +kernel
theorem dX7_lookAt_69 : decode cX7_lookAt 69 = .ok (.aload_n 0, 1) := by decide +kernel
theorem dX7_lookAt_70 : decode cX7_lookAt 70 = .ok (.getfield 15, 3) := by decide +kernel
theorem dX7_lookAt_73 : decode cX7_lookAt 73 = .ok (.iconst 0, 1) := by decide +kernel
theorem dX7_lookAt_74 : decode cX7_lookAt 74 = .ok (.bipush 7, 2) := by decide +kernel
theorem dX7_lookAt_76 : decode cX7_lookAt 76 = .ok (.invokestatic 87, 3) := by decide +kernel
theorem dX7_lookAt_79 : decode cX7_lookAt 79 = .ok (.aload_n 0, 1) := by decide +kernel
theorem dX7_lookAt_80 : decode cX7_lookAt 80 = .ok (.getfield 25, 3) := by decide +kernel
theorem dX7_lookAt_83 : decode cX7_lookAt 83 = .ok (.aload_n 0, 1) := by decide +kernel
theorem dX7_lookAt_84 : decode cX7_lookAt 84 = .ok (.getfield 15, 3) := by decide +kernel
theorem dX7_lookAt_87 : decode cX7_lookAt 87 = .ok (.iload 4, 2) := by decide +kernel
theorem dX7_lookAt_89 : decode cX7_lookAt 89 = .ok (.invokevirtual 93, 3) := by decide +kernel
theorem dX7_lookAt_92 : decode cX7_lookAt 92 = .ok (.aload_n 0, 1) := by decide +kernel
theorem dX7_lookAt_93 : decode cX7_lookAt 93 = .ok (.aload_n 0, 1) := by decide +kernel
theorem dX7_lookAt_94 : decode cX7_lookAt 94 = .ok (.getfield 15, 3) := by decide +kernel
theorem dX7_lookAt_97 : decode cX7_lookAt 97 = .ok (.iload_n 3, 1) := by decide +kernel
theorem dX7_lookAt_98 : decode cX7_lookAt 98 = .ok (.invokestatic 50, 3) := by decide +kernel
theorem dX7_lookAt_101 : decode cX7_lookAt 101 = .ok (.invokevirtual 56, 3) := by decide +kernel
theorem dX7_lookAt_104 : decode cX7_lookAt 104 = .ok (.iinc 4 1, 3) := by decide +kernel
theorem dX7_lookAt_107 : decode cX7_lookAt 107 = .ok (.goto (-55), 3) := by decide +kernel
theorem dX7_lookAt_110 : decode cX7_lookAt 110 = .ok (.return_, 1) := by decide +kernel
theorem dX7_addEnd_0 : decode cX7_addEnd 0 = .ok (.aload_n 0, 1) := by decide +kernel
theorem dX7_addEnd_1 : decode cX7_addEnd 1 = .ok (.getfield 25, 3) := by decide +kernel
theorem dX7_addEnd_4 : decode cX7_addEnd 4 = .ok (.getfield 39, 3) := by decide +kernel
theorem dX7_addEnd_7 : decode cX7_addEnd 7 = .ok (.aload_n 0, 1) := by decide +kernel
theorem dX7_addEnd_8 : decode cX7_addEnd 8 = .ok (.getfield 9, 3) := by decide +kernel
theorem dX7_addEnd_11 : decode cX7_addEnd 11 = .ok (.invokevirtual 97, 3) := by decide +kernel
theorem dX7_addEnd_14 : decode cX7_addEnd 14 = .ok (.istore_n 2, 1) := by decide +kernel
theorem dX7_addEnd_15 : decode cX7_addEnd 15 = .ok (.aload_n 0, 1) := by decide +kernel
theorem dX7_addEnd_16 : decode cX7_addEnd 16 = .ok (.dup, 1) := by decide +kernel
theorem dX7_addEnd_17 : decode cX7_addEnd 17 = .ok (.getfield 29, 3) := by decide +kernel
theorem dX7_addEnd_20 : decode cX7_addEnd 20 = .ok (.iconst 1, 1) := by decide +kernel
theorem dX7_addEnd_21 : decode cX7_addEnd 21 = .ok (.iadd, 1) := by decide +kernel
theorem dX7_addEnd_22 : decode cX7_addEnd 22 = .ok (.putfield 29, 3) := by decide +kernel
theorem dX7_addEnd_25 : decode cX7_addEnd 25 = .ok (.iload_n 2, 1) := by decide +kernel
theorem dX7_addEnd_26 : decode cX7_addEnd 26 = .ok (.aload_n 0, 1) := by decide +kernel
theorem dX7_addEnd_27 : decode cX7_addEnd 27 = .ok (.getfield 33, 3) := by decide +kernel
theorem dX7_addEnd_30 : decode cX7_addEnd 30 = .ok (.if_icmp .gt 19, 3) := by decide +kernel
theorem dX7_addEnd_33 : decode cX7_addEnd 33 = .ok (.iload_n 2, 1) := by decide +kernel
theorem dX7_addEnd_34 : decode cX7_addEnd 34 = .ok (.aload_n 0, 1) := by decide +kernel
theorem dX7_addEnd_35 : decode cX7_addEnd 35 = .ok (.getfield 33, 3) := by decide +kernel
theorem dX7_addEnd_38 : decode cX7_addEnd 38 = .ok (.if_icmp .ne 21, 3) := by decide +kernel
theorem dX7_addEnd_41 : decode cX7_addEnd 41 = .ok (.iload_n 1, 1) := by decide +kernel
theorem dX7_addEnd_42 : decode cX7_addEnd 42 = .ok (.aload_n 0, 1) := by decide +kernel
theorem dX7_addEnd_43 : decode cX7_addEnd 43 = .ok (.getfield 36, 3) := by decide +kernel
theorem dX7_addEnd_46 : decode cX7_addEnd 46 = .ok (.if_icmp .ge 13, 3) := by decide +kernel
theorem dX7_addEnd_49 : decode cX7_addEnd 49 = .ok (.aload_n 0, 1) := by decide +kernel
theorem dX7_addEnd_50 : decode cX7_addEnd 50 = .ok (.iload_n 2, 1) := by decide +kernel
theorem dX7_addEnd_51 : decode cX7_addEnd 51 = .ok (.putfield 33, 3) := by decide +kernel
theorem dX7_addEnd_54 : decode cX7_addEnd 54 = .ok (.aload_n 0, 1) := by decide +kernel
theorem dX7_addEnd_55 : decode cX7_addEnd 55 = .ok (.iload_n 1, 1) := by decide +kernel
theorem dX7_addEnd_56 : decode cX7_addEnd 56 = .ok (.putfield 36, 3) := by decide +kernel
theorem dX7_addEnd_59 : decode cX7_addEnd 59 = .ok (.return_, 1) := by decide +kernel
theorem dX8_init_0 : decode cX8_init 0 = .ok (.aload_n 0, 1) := by decide +kernel
theorem dX8_init_1 : decode cX8_init 1 = .ok (.invokespecial 3, 3) := by decide +kernel
theorem dX8_init_4 : decode cX8_init 4 = .ok (.aload_n 0, 1) := by decide +kernel
theorem dX8_init_5 : decode cX8_init 5 = .ok (.bipush 7, 2) := by decide +kernel
theorem dX8_init_7 : decode cX8_init 7 = .ok (.newarray .int, 2) := by decide +kernel
theorem dX8_init_9 : decode cX8_init 9 = .ok (.putfield 9, 3) := by decide +kernel
theorem dX8_init_12 : decode cX8_init 12 = .ok (.aload_n 0, 1) := by decide +kernel
theorem dX8_init_13 : decode cX8_init 13 = .ok (.bipush 49, 2) := by decide +kernel
theorem dX8_init_15 : decode cX8_init 15 = .ok (.newarray .int, 2) := by decide +kernel
theorem dX8_init_17 : decode cX8_init 17 = .ok (.putfield 15, 3) := by decide +kernel
theorem dX8_init_20 : decode cX8_init 20 = .ok (.aload_n 0, 1) := by decide +kernel
theorem dX8_init_21 : decode cX8_init 21 = .ok (.aload_n 1, 1) := by decide +kernel
theorem dX8_init_22 : decode cX8_init 22 = .ok (.putfield 18, 3) := by decide +kernel
theorem dX8_init_25 : decode cX8_init 25 = .ok (.aload_n 0, 1) := by decide +kernel
theorem dX8_init_26 : decode cX8_init 26 = .ok (.iload_n 2, 1) := by decide +kernel
theorem dX8_init_27 : decode cX8_init 27 = .ok (.putfield 22, 3) := by decide +kernel
theorem dX8_init_30 : decode cX8_init 30 = .ok (.return_, 1) := by decide +kernel
theorem dX8_make_0 : decode cX8_make 0 = .ok (.aload_n 0, 1) := by decide +kernel
theorem dX8_make_1 : decode cX8_make 1 = .ok (.iconst 0, 1) := by decide +kernel
theorem dX8_make_2 : decode cX8_make 2 = .ok (.putfield 26, 3) := by decide +kernel
theorem dX8_make_5 : decode cX8_make 5 = .ok (.aload_n 0, 1) := by decide +kernel
theorem dX8_make_6 : decode cX8_make 6 = .ok (.iconst 0, 1) := by decide +kernel
theorem dX8_make_7 : decode cX8_make 7 = .ok (.putfield 29, 3) := by decide +kernel
theorem dX8_make_10 : decode cX8_make 10 = .ok (.aload_n 0, 1) := by decide +kernel
theorem dX8_make_11 : decode cX8_make 11 = .ok (.iconst 0, 1) := by decide +kernel
theorem dX8_make_12 : decode cX8_make 12 = .ok (.putfield 32, 3) := by decide +kernel
theorem dX8_make_15 : decode cX8_make 15 = .ok (.iconst 0, 1) := by decide +kernel
theorem dX8_make_16 : decode cX8_make 16 = .ok (.istore_n 1, 1) := by decide +kernel
theorem dX8_make_17 : decode cX8_make 17 = .ok (.iload_n 1, 1) := by decide +kernel
theorem dX8_make_18 : decode cX8_make 18 = .ok (.aload_n 0, 1) := by decide +kernel
theorem dX8_make_19 : decode cX8_make 19 = .ok (.getfield 15, 3) := by decide +kernel
theorem dX8_make_22 : decode cX8_make 22 = .ok (.arraylength, 1) := by decide +kernel
theorem dX8_make_23 : decode cX8_make 23 = .ok (.if_icmp .ge 16, 3) := by decide +kernel
theorem dX8_make_26 : decode cX8_make 26 = .ok (.aload_n 0, 1) := by decide +kernel
theorem dX8_make_27 : decode cX8_make 27 = .ok (.getfield 15, 3) := by decide +kernel
theorem dX8_make_30 : decode cX8_make 30 = .ok (.iload_n 1, 1) := by decide +kernel
theorem dX8_make_31 : decode cX8_make 31 = .ok (.iconst 0, 1) := by decide +kernel
theorem dX8_make_32 : decode cX8_make 32 = .ok (.iastore, 1) := by decide +kernel
theorem dX8_make_33 : decode cX8_make 33 = .ok (.iinc 1 1, 3) := by decide +kernel
theorem dX8_make_36 : decode cX8_make 36 = .ok (.goto (-19), 3) := by decide +kernel
theorem dX8_make_39 : decode cX8_make 39 = .ok (.aload_n 0, 1) := by decide +kernel
theorem dX8_make_40 : decode cX8_make 40 = .ok (.getfield 18, 3) := by decide +kernel
theorem dX8_make_43 : decode cX8_make 43 = .ok (.getfield 35, 3) := by decide +kernel
theorem dX8_make_46 : decode cX8_make 46 = .ok (.getfield 41, 3) := by decide +kernel
theorem dX8_make_49 : decode cX8_make 49 = .ok (.istore_n 1, 1) := by decide +kernel
theorem dX8_make_50 : decode cX8_make 50 = .ok (.iconst 0, 1) := by decide +kernel
theorem dX8_make_51 : decode cX8_make 51 = .ok (.istore_n 2, 1) := by decide +kernel
theorem dX8_make_52 : decode cX8_make 52 = .ok (.iload_n 2, 1) := by decide +kernel
theorem dX8_make_53 : decode cX8_make 53 = .ok (.getstatic 46, 3) := by decide +kernel
theorem dX8_make_56 : decode cX8_make 56 = .ok (.iload_n 1, 1) := by decide +kernel
theorem dX8_make_57 : decode cX8_make 57 = .ok (.iaload, 1) := by decide +kernel
theorem dX8_make_58 : decode cX8_make 58 = .ok (.if_icmp .ge 53, 3) := by decide +kernel
theorem dX8_make_61 : decode cX8_make 61 = .ok (.aload_n 0, 1) := by decide +kernel
theorem dX8_make_62 : decode cX8_make 62 = .ok (.getfield 9, 3) := by decide +kernel
theorem dX8_make_65 : decode cX8_make 65 = .ok (.iload_n 1, 1) := by decide +kernel
theorem dX8_make_66 : decode cX8_make 66 = .ok (.iload_n 2, 1) := by decide +kernel
theorem dX8_make_67 : decode cX8_make 67 = .ok (.invokestatic 49, 3) := by decide +kernel
theorem dX8_make_70 : decode cX8_make 70 = .ok (.aload_n 0, 1) := by decide +kernel
theorem dX8_make_71 : decode cX8_make 71 = .ok (.getfield 18, 3) := by decide +kernel
theorem dX8_make_74 : decode cX8_make 74 = .ok (.aload_n 0, 1) := by decide +kernel
theorem dX8_make_75 : decode cX8_make 75 = .ok (.getfield 9, 3) := by decide +kernel
theorem dX8_make_78 : decode cX8_make 78 = .ok (.invokevirtual 55, 3) := by decide +kernel
theorem dX8_make_81 : decode cX8_make 81 = .ok (.ifCond .eq 24, 3) := by decide +kernel
theorem dX8_make_84 : decode cX8_make 84 = .ok (.aload_n 0, 1) := by decide +kernel
theorem dX8_make_85 : decode cX8_make 85 = .ok (.getfield 18, 3) := by decide +kernel
theorem dX8_make_88 : decode cX8_make 88 = .ok (.aload_n 0, 1) := by decide +kernel
theorem dX8_make_89 : decode cX8_make 89 = .ok (.getfield 9, 3) := by decide +kernel
theorem dX8_make_92 : decode cX8_make 92 = .ok (.aload_n 0, 1) := by decide +kernel
theorem dX8_make_93 : decode cX8_make 93 = .ok (.getfield 22, 3) := by decide +kernel
theorem dX8_make_96 : decode cX8_make 96 = .ok (.invokevirtual 59, 3) := by decide +kernel
theorem dX8_make_99 : decode cX8_make 99 = .ok (.pop, 1) := by decide +kernel
theorem dX8_make_100 : decode cX8_make 100 = .ok (.aload_n 0, 1) := by decide +kernel
theorem dX8_make_101 : decode cX8_make 101 = .ok (.iload_n 1, 1) := by decide +kernel
theorem dX8_make_102 : decode cX8_make 102 = .ok (.invokevirtual 63, 3) := by decide +kernel
theorem dX8_make_105 : decode cX8_make 105 = .ok (.iinc 2 1, 3) := by decide +kernel
theorem dX8_make_108 : decode cX8_make 108 = .ok (.goto (-56), 3) := by decide +kernel
theorem dX8_make_111 : decode cX8_make 111 = .ok (.aload_n 0, 1) := by decide +kernel
theorem dX8_make_112 : decode cX8_make 112 = .ok (.iconst 1, 1) := by decide +kernel
theorem dX8_make_113 : decode cX8_make 113 = .ok (.putfield 67, 3) := by decide +kernel
theorem dX8_make_116 : decode cX8_make 116 = .ok (.return_, 1) := by decide +kernel
theorem dX8_addRow_0 : decode cX8_addRow 0 = .ok (.aload_n 0, 1) := by decide +kernel
theorem dX8_addRow_1 : decode cX8_addRow 1 = .ok (.dup, 1) := by decide +kernel
theorem dX8_addRow_2 : decode cX8_addRow 2 = .ok (.getfield 26, 3) := by decide +kernel
theorem dX8_addRow_5 : decode cX8_addRow 5 = .ok (.iconst 1, 1) := by decide +kernel
theorem dX8_addRow_6 : decode cX8_addRow 6 = .ok (.iadd, 1) := by decide +kernel
theorem dX8_addRow_7 : decode cX8_addRow 7 = .ok (.putfield 26, 3) := by decide +kernel
theorem dX8_addRow_10 : decode cX8_addRow 10 = .ok (.aload_n 0, 1) := by decide +kernel
theorem dX8_addRow_11 : decode cX8_addRow 11 = .ok (.dup, 1) := by decide +kernel
theorem dX8_addRow_12 : decode cX8_addRow 12 = .ok (.getfield 29, 3) := by decide +kernel
theorem dX8_addRow_15 : decode cX8_addRow 15 = .ok (.aload_n 0, 1) := by decide +kernel
theorem dX8_addRow_16 : decode cX8_addRow 16 = .ok (.getfield 18, 3) := by decide +kernel
theorem dX8_addRow_19 : decode cX8_addRow 19 = .ok (.getfield 35, 3) := by decide +kernel
theorem dX8_addRow_22 : decode cX8_addRow 22 = .ok (.aload_n 0, 1) := by decide +kernel
theorem dX8_addRow_23 : decode cX8_addRow 23 = .ok (.getfield 9, 3) := by decide +kernel
theorem dX8_addRow_26 : decode cX8_addRow 26 = .ok (.invokevirtual 71, 3) := by decide +kernel
theorem dX8_addRow_29 : decode cX8_addRow 29 = .ok (.iadd, 1) := by decide +kernel
theorem dX8_addRow_30 : decode cX8_addRow 30 = .ok (.putfield 29, 3) := by decide +kernel
theorem dX8_addRow_33 : decode cX8_addRow 33 = .ok (.aload_n 0, 1) := by decide +kernel
theorem dX8_addRow_34 : decode cX8_addRow 34 = .ok (.dup, 1) := by decide +kernel
theorem dX8_addRow_35 : decode cX8_addRow 35 = .ok (.getfield 32, 3) := by decide +kernel
theorem dX8_addRow_38 : decode cX8_addRow 38 = .ok (.aload_n 0, 1) := by decide +kernel
theorem dX8_addRow_39 : decode cX8_addRow 39 = .ok (.getfield 18, 3) := by decide +kernel
theorem dX8_addRow_42 : decode cX8_addRow 42 = .ok (.getfield 35, 3) := by decide +kernel
theorem dX8_addRow_45 : decode cX8_addRow 45 = .ok (.aload_n 0, 1) := by decide +kernel
theorem dX8_addRow_46 : decode cX8_addRow 46 = .ok (.getfield 9, 3) := by decide +kernel
theorem dX8_addRow_49 : decode cX8_addRow 49 = .ok (.invokevirtual 75, 3) := by decide +kernel
theorem dX8_addRow_52 : decode cX8_addRow 52 = .ok (.iadd, 1) := by decide +kernel
theorem dX8_addRow_53 : decode cX8_addRow 53 = .ok (.putfield 32, 3) := by decide +kernel
theorem dX8_addRow_56 : decode cX8_addRow 56 = .ok (.iconst 0, 1) := by decide +kernel
theorem dX8_addRow_57 : decode cX8_addRow 57 = .ok (.istore_n 2, 1) := by decide +kernel
theorem dX8_addRow_58 : decode cX8_addRow 58 = .ok (.iload_n 2, 1) := by decide +kernel
theorem dX8_addRow_59 : decode cX8_addRow 59 = .ok (.iload_n 1, 1) := by decide +kernel
theorem dX8_addRow_60 : decode cX8_addRow 60 = .ok (.if_icmp .ge 28, 3) := by decide +kernel
theorem dX8_addRow_63 : decode cX8_addRow 63 = .ok (.aload_n 0, 1) := by decide +kernel
theorem dX8_addRow_64 : decode cX8_addRow 64 = .ok (.getfield 15, 3) := by decide +kernel
theorem dX8_addRow_67 : decode cX8_addRow 67 = .ok (.iload_n 2, 1) := by decide +kernel
theorem dX8_addRow_68 : decode cX8_addRow 68 = .ok (.aload_n 0, 1) := by decide +kernel
theorem dX8_addRow_69 : decode cX8_addRow 69 = .ok (.getfield 9, 3) := by decide +kernel
theorem dX8_addRow_72 : decode cX8_addRow 72 = .ok (.iload_n 2, 1) := by decide +kernel
theorem dX8_addRow_73 : decode cX8_addRow 73 = .ok (.iaload, 1) := by decide +kernel
theorem dX8_addRow_74 : decode cX8_addRow 74 = .ok (.invokestatic 78, 3) := by decide +kernel
theorem dX8_addRow_77 : decode cX8_addRow 77 = .ok (.dup2, 1) := by decide +kernel
theorem dX8_addRow_78 : decode cX8_addRow 78 = .ok (.iaload, 1) := by decide +kernel
theorem dX8_addRow_79 : decode cX8_addRow 79 = .ok (.iconst 1, 1) := by decide +kernel
theorem dX8_addRow_80 : decode cX8_addRow 80 = .ok (.iadd, 1) := by decide +kernel
theorem dX8_addRow_81 : decode cX8_addRow 81 = .ok (.iastore, 1) := by decide +kernel
theorem dX8_addRow_82 : decode cX8_addRow 82 = .ok (.iinc 2 1, 3) := by decide +kernel
theorem dX8_addRow_85 : decode cX8_addRow 85 = .ok (.goto (-27), 3) := by decide +kernel
theorem dX8_addRow_88 : decode cX8_addRow 88 = .ok (.return_, 1) := by decide +kernel
theorem dX9_init_0 : decode cX9_init 0 = .ok (.aload_n 0, 1) := by decide +kernel
theorem dX9_init_1 : decode cX9_init 1 = .ok (.invokespecial 1, 3) := by decide +kernel
theorem dX9_init_4 : decode cX9_init 4 = .ok (.aload_n 0, 1) := by decide +kernel
theorem dX9_init_5 : decode cX9_init 5 = .ok (.new 7, 3) := by decide +kernel
theorem dX9_init_8 : decode cX9_init 8 = .ok (.dup, 1) := by decide +kernel
theorem dX9_init_9 : decode cX9_init 9 = .ok (.invokespecial 9, 3) := by decide +kernel
theorem dX9_init_12 : decode cX9_init 12 = .ok (.putfield 10, 3) := by decide +kernel
theorem dX9_init_15 : decode cX9_init 15 = .ok (.aload_n 0, 1) := by decide +kernel
theorem dX9_init_16 : decode cX9_init 16 = .ok (.new 16, 3) := by decide +kernel
theorem dX9_init_19 : decode cX9_init 19 = .ok (.dup, 1) := by decide +kernel
theorem dX9_init_20 : decode cX9_init 20 = .ok (.invokespecial 18, 3) := by decide +kernel
theorem dX9_init_23 : decode cX9_init 23 = .ok (.putfield 19, 3) := by decide +kernel
theorem dX9_init_26 : decode cX9_init 26 = .ok (.aload_n 0, 1) := by decide +kernel
theorem dX9_init_27 : decode cX9_init 27 = .ok (.new 23, 3) := by decide +kernel
theorem dX9_init_30 : decode cX9_init 30 = .ok (.dup, 1) := by decide +kernel
theorem dX9_init_31 : decode cX9_init 31 = .ok (.invokespecial 25, 3) := by decide +kernel
theorem dX9_init_34 : decode cX9_init 34 = .ok (.putfield 26, 3) := by decide +kernel
theorem dX9_init_37 : decode cX9_init 37 = .ok (.aload_n 0, 1) := by decide +kernel
theorem dX9_init_38 : decode cX9_init 38 = .ok (.iconst 2, 1) := by decide +kernel
theorem dX9_init_39 : decode cX9_init 39 = .ok (.anewarray 23, 3) := by decide +kernel
theorem dX9_init_42 : decode cX9_init 42 = .ok (.dup, 1) := by decide +kernel
theorem dX9_init_43 : decode cX9_init 43 = .ok (.iconst 0, 1) := by decide +kernel
theorem dX9_init_44 : decode cX9_init 44 = .ok (.new 23, 3) := by decide +kernel
theorem dX9_init_47 : decode cX9_init 47 = .ok (.dup, 1) := by decide +kernel
theorem dX9_init_48 : decode cX9_init 48 = .ok (.invokespecial 25, 3) := by decide +kernel
theorem dX9_init_51 : decode cX9_init 51 = .ok (.aastore, 1) := by decide +kernel
theorem dX9_init_52 : decode cX9_init 52 = .ok (.dup, 1) := by decide +kernel
theorem dX9_init_53 : decode cX9_init 53 = .ok (.iconst 1, 1) := by decide +kernel
theorem dX9_init_54 : decode cX9_init 54 = .ok (.new 23, 3) := by decide +kernel
theorem dX9_init_57 : decode cX9_init 57 = .ok (.dup, 1) := by decide +kernel
theorem dX9_init_58 : decode cX9_init 58 = .ok (.invokespecial 25, 3) := by decide +kernel
theorem dX9_init_61 : decode cX9_init 61 = .ok (.aastore, 1) := by decide +kernel
theorem dX9_init_62 : decode cX9_init 62 = .ok (.putfield 30, 3) := by decide +kernel
theorem dX9_init_65 : decode cX9_init 65 = .ok (.aload_n 0, 1) := by decide +kernel
theorem dX9_init_66 : decode cX9_init 66 = .ok (.iconst 2, 1) := by decide +kernel
theorem dX9_init_67 : decode cX9_init 67 = .ok (.newarray .boolean, 2) := by decide +kernel
theorem dX9_init_69 : decode cX9_init 69 = .ok (.putfield 34, 3) := by decide +kernel
theorem dX9_init_72 : decode cX9_init 72 = .ok (.aload_n 0, 1) := by decide +kernel
theorem dX9_init_73 : decode cX9_init 73 = .ok (.new 38, 3) := by decide +kernel
theorem dX9_init_76 : decode cX9_init 76 = .ok (.dup, 1) := by decide +kernel
theorem dX9_init_77 : decode cX9_init 77 = .ok (.aload_n 0, 1) := by decide +kernel
theorem dX9_init_78 : decode cX9_init 78 = .ok (.getfield 19, 3) := by decide +kernel
theorem dX9_init_81 : decode cX9_init 81 = .ok (.invokespecial 40, 3) := by decide +kernel
theorem dX9_init_84 : decode cX9_init 84 = .ok (.putfield 43, 3) := by decide +kernel
theorem dX9_init_87 : decode cX9_init 87 = .ok (.aload_n 0, 1) := by decide +kernel
theorem dX9_init_88 : decode cX9_init 88 = .ok (.iconst 3, 1) := by decide +kernel
theorem dX9_init_89 : decode cX9_init 89 = .ok (.anewarray 47, 3) := by decide +kernel
theorem dX9_init_92 : decode cX9_init 92 = .ok (.dup, 1) := by decide +kernel
theorem dX9_init_93 : decode cX9_init 93 = .ok (.iconst 0, 1) := by decide +kernel
theorem dX9_init_94 : decode cX9_init 94 = .ok (.new 47, 3) := by decide +kernel
theorem dX9_init_97 : decode cX9_init 97 = .ok (.dup, 1) := by decide +kernel
theorem dX9_init_98 : decode cX9_init 98 = .ok (.aload_n 0, 1) := by decide +kernel
theorem dX9_init_99 : decode cX9_init 99 = .ok (.getfield 43, 3) := by decide +kernel
theorem dX9_init_102 : decode cX9_init 102 = .ok (.iconst 0, 1) := by decide +kernel
theorem dX9_init_103 : decode cX9_init 103 = .ok (.invokespecial 49, 3) := by decide +kernel
theorem dX9_init_106 : decode cX9_init 106 = .ok (.aastore, 1) := by decide +kernel
theorem dX9_init_107 : decode cX9_init 107 = .ok (.dup, 1) := by decide +kernel
theorem dX9_init_108 : decode cX9_init 108 = .ok (.iconst 1, 1) := by decide +kernel
theorem dX9_init_109 : decode cX9_init 109 = .ok (.new 47, 3) := by decide +kernel
theorem dX9_init_112 : decode cX9_init 112 = .ok (.dup, 1) := by decide +kernel
theorem dX9_init_113 : decode cX9_init 113 = .ok (.aload_n 0, 1) := by decide +kernel
theorem dX9_init_114 : decode cX9_init 114 = .ok (.getfield 43, 3) := by decide +kernel
theorem dX9_init_117 : decode cX9_init 117 = .ok (.iconst 2, 1) := by decide +kernel
theorem dX9_init_118 : decode cX9_init 118 = .ok (.invokespecial 49, 3) := by decide +kernel
theorem dX9_init_121 : decode cX9_init 121 = .ok (.aastore, 1) := by decide +kernel
theorem dX9_init_122 : decode cX9_init 122 = .ok (.dup, 1) := by decide +kernel
theorem dX9_init_123 : decode cX9_init 123 = .ok (.iconst 2, 1) := by decide +kernel
theorem dX9_init_124 : decode cX9_init 124 = .ok (.new 47, 3) := by decide +kernel
theorem dX9_init_127 : decode cX9_init 127 = .ok (.dup, 1) := by decide +kernel
theorem dX9_init_128 : decode cX9_init 128 = .ok (.aload_n 0, 1) := by decide +kernel
theorem dX9_init_129 : decode cX9_init 129 = .ok (.getfield 43, 3) := by decide +kernel
theorem dX9_init_132 : decode cX9_init 132 = .ok (.iconst 3, 1) := by decide +kernel
theorem dX9_init_133 : decode cX9_init 133 = .ok (.invokespecial 49, 3) := by decide +kernel
theorem dX9_init_136 : decode cX9_init 136 = .ok (.aastore, 1) := by decide +kernel
theorem dX9_init_137 : decode cX9_init 137 = .ok (.putfield 52, 3) := by decide +kernel
theorem dX9_init_140 : decode cX9_init 140 = .ok (.aload_n 0, 1) := by decide +kernel
theorem dX9_init_141 : decode cX9_init 141 = .ok (.new 56, 3) := by decide +kernel
theorem dX9_init_144 : decode cX9_init 144 = .ok (.dup, 1) := by decide +kernel
theorem dX9_init_145 : decode cX9_init 145 = .ok (.aload_n 0, 1) := by decide +kernel
theorem dX9_init_146 : decode cX9_init 146 = .ok (.getfield 43, 3) := by decide +kernel
theorem dX9_init_149 : decode cX9_init 149 = .ok (.invokespecial 58, 3) := by decide +kernel
theorem dX9_init_152 : decode cX9_init 152 = .ok (.putfield 61, 3) := by decide +kernel
theorem dX9_init_155 : decode cX9_init 155 = .ok (.aload_n 0, 1) := by decide +kernel
theorem dX9_init_156 : decode cX9_init 156 = .ok (.new 65, 3) := by decide +kernel
theorem dX9_init_159 : decode cX9_init 159 = .ok (.dup, 1) := by decide +kernel
theorem dX9_init_160 : decode cX9_init 160 = .ok (.aload_n 0, 1) := by decide +kernel
