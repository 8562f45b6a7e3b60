theorem dX5_passAll_8 : decode cX5_passAll 8 = .ok (.aload_n 0, 1) := by decide +kernel
theorem dX5_passAll_9 : decode cX5_passAll 9 = .ok (.aload_n 1, 1) := by decide +kernel
theorem dX5_passAll_10 : decode cX5_passAll 10 = .ok (.iload_n 2, 1) := by decide +kernel
theorem dX5_passAll_11 : decode cX5_passAll 11 = .ok (.iconst 1, 1) := by decide +kernel
theorem dX5_passAll_12 : decode cX5_passAll 12 = .ok (.invokevirtual 61, 3) := by decide +kernel
theorem dX5_passAll_15 : decode cX5_passAll 15 = .ok (.aload_n 0, 1) := by decide +kernel
theorem dX5_passAll_16 : decode cX5_passAll 16 = .ok (.getfield 46, 3) := by decide +kernel
theorem dX5_passAll_19 : decode cX5_passAll 19 = .ok (.ifCond .ne 5, 3) := by decide +kernel
theorem dX5_passAll_22 : decode cX5_passAll 22 = .ok (.iload_n 3, 1) := by decide +kernel
theorem dX5_passAll_23 : decode cX5_passAll 23 = .ok (.ireturn, 1) := by decide +kernel
theorem dX5_passAll_24 : decode cX5_passAll 24 = .ok (.aload_n 0, 1) := by decide +kernel
theorem dX5_passAll_25 : decode cX5_passAll 25 = .ok (.aload_n 1, 1) := by decide +kernel
theorem dX5_passAll_26 : decode cX5_passAll 26 = .ok (.iconst 0, 1) := by decide +kernel
theorem dX5_passAll_27 : decode cX5_passAll 27 = .ok (.invokevirtual 65, 3) := by decide +kernel
theorem dX5_passAll_30 : decode cX5_passAll 30 = .ok (.iinc 3 1, 3) := by decide +kernel
theorem dX5_passAll_33 : decode cX5_passAll 33 = .ok (.goto (-31), 3) := by decide +kernel
theorem dX5_passAll_36 : decode cX5_passAll 36 = .ok (.bipush 63, 2) := by decide +kernel
theorem dX5_passAll_38 : decode cX5_passAll 38 = .ok (.ireturn, 1) := by decide +kernel
theorem dX5_bestFor_0 : decode cX5_bestFor 0 = .ok (.iconst (-1), 1) := by decide +kernel
theorem dX5_bestFor_1 : decode cX5_bestFor 1 = .ok (.istore 4, 2) := by decide +kernel
theorem dX5_bestFor_3 : decode cX5_bestFor 3 = .ok (.aload_n 0, 1) := by decide +kernel
theorem dX5_bestFor_4 : decode cX5_bestFor 4 = .ok (.aload_n 2, 1) := by decide +kernel
theorem dX5_bestFor_5 : decode cX5_bestFor 5 = .ok (.iload_n 3, 1) := by decide +kernel
theorem dX5_bestFor_6 : decode cX5_bestFor 6 = .ok (.bipush 70, 2) := by decide +kernel
theorem dX5_bestFor_8 : decode cX5_bestFor 8 = .ok (.invokevirtual 61, 3) := by decide +kernel
theorem dX5_bestFor_11 : decode cX5_bestFor 11 = .ok (.iconst 0, 1) := by decide +kernel
theorem dX5_bestFor_12 : decode cX5_bestFor 12 = .ok (.istore 5, 2) := by decide +kernel
theorem dX5_bestFor_14 : decode cX5_bestFor 14 = .ok (.iload 5, 2) := by decide +kernel
theorem dX5_bestFor_16 : decode cX5_bestFor 16 = .ok (.aload_n 0, 1) := by decide +kernel
theorem dX5_bestFor_17 : decode cX5_bestFor 17 = .ok (.getfield 46, 3) := by decide +kernel
theorem dX5_bestFor_20 : decode cX5_bestFor 20 = .ok (.if_icmp .ge 44, 3) := by decide +kernel
theorem dX5_bestFor_23 : decode cX5_bestFor 23 = .ok (.aload_n 0, 1) := by decide +kernel
theorem dX5_bestFor_24 : decode cX5_bestFor 24 = .ok (.iload_n 1, 1) := by decide +kernel
theorem dX5_bestFor_25 : decode cX5_bestFor 25 = .ok (.iload 5, 2) := by decide +kernel
theorem dX5_bestFor_27 : decode cX5_bestFor 27 = .ok (.invokevirtual 69, 3) := by decide +kernel
theorem dX5_bestFor_30 : decode cX5_bestFor 30 = .ok (.istore 6, 2) := by decide +kernel
theorem dX5_bestFor_32 : decode cX5_bestFor 32 = .ok (.iload 6, 2) := by decide +kernel
theorem dX5_bestFor_34 : decode cX5_bestFor 34 = .ok (.iconst (-1), 1) := by decide +kernel
theorem dX5_bestFor_35 : decode cX5_bestFor 35 = .ok (.if_icmp .eq 23, 3) := by decide +kernel
theorem dX5_bestFor_38 : decode cX5_bestFor 38 = .ok (.aload_n 0, 1) := by decide +kernel
theorem dX5_bestFor_39 : decode cX5_bestFor 39 = .ok (.iload_n 1, 1) := by decide +kernel
theorem dX5_bestFor_40 : decode cX5_bestFor 40 = .ok (.aload_n 2, 1) := by decide +kernel
theorem dX5_bestFor_41 : decode cX5_bestFor 41 = .ok (.iload 6, 2) := by decide +kernel
theorem dX5_bestFor_43 : decode cX5_bestFor 43 = .ok (.iaload, 1) := by decide +kernel
theorem dX5_bestFor_44 : decode cX5_bestFor 44 = .ok (.iload 4, 2) := by decide +kernel
theorem dX5_bestFor_46 : decode cX5_bestFor 46 = .ok (.invokevirtual 72, 3) := by decide +kernel
theorem dX5_bestFor_49 : decode cX5_bestFor 49 = .ok (.ifCond .eq 9, 3) := by decide +kernel
theorem dX5_bestFor_52 : decode cX5_bestFor 52 = .ok (.aload_n 2, 1) := by decide +kernel
theorem dX5_bestFor_53 : decode cX5_bestFor 53 = .ok (.iload 6, 2) := by decide +kernel
theorem dX5_bestFor_55 : decode cX5_bestFor 55 = .ok (.iaload, 1) := by decide +kernel
theorem dX5_bestFor_56 : decode cX5_bestFor 56 = .ok (.istore 4, 2) := by decide +kernel
theorem dX5_bestFor_58 : decode cX5_bestFor 58 = .ok (.iinc 5 1, 3) := by decide +kernel
theorem dX5_bestFor_61 : decode cX5_bestFor 61 = .ok (.goto (-47), 3) := by decide +kernel
theorem dX5_bestFor_64 : decode cX5_bestFor 64 = .ok (.iload 4, 2) := by decide +kernel
theorem dX5_bestFor_66 : decode cX5_bestFor 66 = .ok (.ireturn, 1) := by decide +kernel
theorem dX5_isBetter_0 : decode cX5_isBetter 0 = .ok (.iload_n 3, 1) := by decide +kernel
theorem dX5_isBetter_1 : decode cX5_isBetter 1 = .ok (.iconst (-1), 1) := by decide +kernel
theorem dX5_isBetter_2 : decode cX5_isBetter 2 = .ok (.if_icmp .ne 5, 3) := by decide +kernel
theorem dX5_isBetter_5 : decode cX5_isBetter 5 = .ok (.iconst 1, 1) := by decide +kernel
theorem dX5_isBetter_6 : decode cX5_isBetter 6 = .ok (.ireturn, 1) := by decide +kernel
theorem dX5_isBetter_7 : decode cX5_isBetter 7 = .ok (.aload_n 0, 1) := by decide +kernel
theorem dX5_isBetter_8 : decode cX5_isBetter 8 = .ok (.getfield 18, 3) := by decide +kernel
theorem dX5_isBetter_11 : decode cX5_isBetter 11 = .ok (.iload_n 1, 1) := by decide +kernel
theorem dX5_isBetter_12 : decode cX5_isBetter 12 = .ok (.iload_n 2, 1) := by decide +kernel
theorem dX5_isBetter_13 : decode cX5_isBetter 13 = .ok (.invokevirtual 39, 3) := by decide +kernel
theorem dX5_isBetter_16 : decode cX5_isBetter 16 = .ok (.aload_n 0, 1) := by decide +kernel
theorem dX5_isBetter_17 : decode cX5_isBetter 17 = .ok (.getfield 18, 3) := by decide +kernel
theorem dX5_isBetter_20 : decode cX5_isBetter 20 = .ok (.iload_n 1, 1) := by decide +kernel
theorem dX5_isBetter_21 : decode cX5_isBetter 21 = .ok (.iload_n 3, 1) := by decide +kernel
theorem dX5_isBetter_22 : decode cX5_isBetter 22 = .ok (.invokevirtual 39, 3) := by decide +kernel
theorem dX5_isBetter_25 : decode cX5_isBetter 25 = .ok (.isub, 1) := by decide +kernel
theorem dX5_isBetter_26 : decode cX5_isBetter 26 = .ok (.istore 4, 2) := by decide +kernel
theorem dX5_isBetter_28 : decode cX5_isBetter 28 = .ok (.iload 4, 2) := by decide +kernel
theorem dX5_isBetter_30 : decode cX5_isBetter 30 = .ok (.ifCond .gt 13, 3) := by decide +kernel
theorem dX5_isBetter_33 : decode cX5_isBetter 33 = .ok (.iload 4, 2) := by decide +kernel
theorem dX5_isBetter_35 : decode cX5_isBetter 35 = .ok (.ifCond .ne 12, 3) := by decide +kernel
theorem dX5_isBetter_38 : decode cX5_isBetter 38 = .ok (.iload_n 2, 1) := by decide +kernel
theorem dX5_isBetter_39 : decode cX5_isBetter 39 = .ok (.iload_n 3, 1) := by decide +kernel
theorem dX5_isBetter_40 : decode cX5_isBetter 40 = .ok (.if_icmp .ge 7, 3) := by decide +kernel
theorem dX5_isBetter_43 : decode cX5_isBetter 43 = .ok (.iconst 1, 1) := by decide +kernel
theorem dX5_isBetter_44 : decode cX5_isBetter 44 = .ok (.goto 4, 3) := by decide +kernel
theorem dX5_isBetter_47 : decode cX5_isBetter 47 = .ok (.iconst 0, 1) := by decide +kernel
theorem dX5_isBetter_48 : decode cX5_isBetter 48 = .ok (.ireturn, 1) := by decide +kernel
theorem dX5_giverTo_0 : decode cX5_giverTo 0 = .ok (.aload_n 0, 1) := by decide +kernel
theorem dX5_giverTo_1 : decode cX5_giverTo 1 = .ok (.getfield 15, 3) := by decide +kernel
theorem dX5_giverTo_4 : decode cX5_giverTo 4 = .ok (.iload_n 2, 1) := by decide +kernel
theorem dX5_giverTo_5 : decode cX5_giverTo 5 = .ok (.iconst 3, 1) := by decide +kernel
theorem dX5_giverTo_6 : decode cX5_giverTo 6 = .ok (.imul, 1) := by decide +kernel
theorem dX5_giverTo_7 : decode cX5_giverTo 7 = .ok (.iaload, 1) := by decide +kernel
theorem dX5_giverTo_8 : decode cX5_giverTo 8 = .ok (.istore_n 3, 1) := by decide +kernel
theorem dX5_giverTo_9 : decode cX5_giverTo 9 = .ok (.aload_n 0, 1) := by decide +kernel
theorem dX5_giverTo_10 : decode cX5_giverTo 10 = .ok (.getfield 15, 3) := by decide +kernel
theorem dX5_giverTo_13 : decode cX5_giverTo 13 = .ok (.iload_n 2, 1) := by decide +kernel
theorem dX5_giverTo_14 : decode cX5_giverTo 14 = .ok (.iconst 3, 1) := by decide +kernel
theorem dX5_giverTo_15 : decode cX5_giverTo 15 = .ok (.imul, 1) := by decide +kernel
theorem dX5_giverTo_16 : decode cX5_giverTo 16 = .ok (.iconst 1, 1) := by decide +kernel
theorem dX5_giverTo_17 : decode cX5_giverTo 17 = .ok (.iadd, 1) := by decide +kernel
theorem dX5_giverTo_18 : decode cX5_giverTo 18 = .ok (.iaload, 1) := by decide +kernel
theorem dX5_giverTo_19 : decode cX5_giverTo 19 = .ok (.istore 4, 2) := by decide +kernel
theorem dX5_giverTo_21 : decode cX5_giverTo 21 = .ok (.aload_n 0, 1) := by decide +kernel
theorem dX5_giverTo_22 : decode cX5_giverTo 22 = .ok (.getfield 15, 3) := by decide +kernel
theorem dX5_giverTo_25 : decode cX5_giverTo 25 = .ok (.iload_n 2, 1) := by decide +kernel
theorem dX5_giverTo_26 : decode cX5_giverTo 26 = .ok (.iconst 3, 1) := by decide +kernel
theorem dX5_giverTo_27 : decode cX5_giverTo 27 = .ok (.imul, 1) := by decide +kernel
theorem dX5_giverTo_28 : decode cX5_giverTo 28 = .ok (.iconst 2, 1) := by decide +kernel
theorem dX5_giverTo_29 : decode cX5_giverTo 29 = .ok (.iadd, 1) := by decide +kernel
theorem dX5_giverTo_30 : decode cX5_giverTo 30 = .ok (.iaload, 1) := by decide +kernel
theorem dX5_giverTo_31 : decode cX5_giverTo 31 = .ok (.istore 5, 2) := by decide +kernel
theorem dX5_giverTo_33 : decode cX5_giverTo 33 = .ok (.iload_n 1, 1) := by decide +kernel
theorem dX5_giverTo_34 : decode cX5_giverTo 34 = .ok (.iload_n 3, 1) := by decide +kernel
theorem dX5_giverTo_35 : decode cX5_giverTo 35 = .ok (.if_icmp .ne 6, 3) := by decide +kernel
theorem dX5_giverTo_38 : decode cX5_giverTo 38 = .ok (.iload 4, 2) := by decide +kernel
theorem dX5_giverTo_40 : decode cX5_giverTo 40 = .ok (.ireturn, 1) := by decide +kernel
theorem dX5_giverTo_41 : decode cX5_giverTo 41 = .ok (.iload_n 1, 1) := by decide +kernel
theorem dX5_giverTo_42 : decode cX5_giverTo 42 = .ok (.iload 4, 2) := by decide +kernel
theorem dX5_giverTo_44 : decode cX5_giverTo 44 = .ok (.if_icmp .ne 16, 3) := by decide +kernel
theorem dX5_giverTo_47 : decode cX5_giverTo 47 = .ok (.iload 5, 2) := by decide +kernel
theorem dX5_giverTo_49 : decode cX5_giverTo 49 = .ok (.iconst (-1), 1) := by decide +kernel
theorem dX5_giverTo_50 : decode cX5_giverTo 50 = .ok (.if_icmp .ne 7, 3) := by decide +kernel
theorem dX5_giverTo_53 : decode cX5_giverTo 53 = .ok (.iload_n 3, 1) := by decide +kernel
theorem dX5_giverTo_54 : decode cX5_giverTo 54 = .ok (.goto 5, 3) := by decide +kernel
theorem dX5_giverTo_57 : decode cX5_giverTo 57 = .ok (.iload 5, 2) := by decide +kernel
theorem dX5_giverTo_59 : decode cX5_giverTo 59 = .ok (.ireturn, 1) := by decide +kernel
theorem dX5_giverTo_60 : decode cX5_giverTo 60 = .ok (.iload_n 1, 1) := by decide +kernel
theorem dX5_giverTo_61 : decode cX5_giverTo 61 = .ok (.iload 5, 2) := by decide +kernel
theorem dX5_giverTo_63 : decode cX5_giverTo 63 = .ok (.if_icmp .ne 7, 3) := by decide +kernel
theorem dX5_giverTo_66 : decode cX5_giverTo 66 = .ok (.iload_n 3, 1) := by decide +kernel
theorem dX5_giverTo_67 : decode cX5_giverTo 67 = .ok (.goto 4, 3) := by decide +kernel
theorem dX5_giverTo_70 : decode cX5_giverTo 70 = .ok (.iconst (-1), 1) := by decide +kernel
theorem dX5_giverTo_71 : decode cX5_giverTo 71 = .ok (.ireturn, 1) := by decide +kernel
theorem dX6_init_0 : decode cX6_init 0 = .ok (.aload_n 0, 1) := by decide +kernel
theorem dX6_init_1 : decode cX6_init 1 = .ok (.invokespecial 3, 3) := by decide +kernel
theorem dX6_init_4 : decode cX6_init 4 = .ok (.aload_n 0, 1) := by decide +kernel
theorem dX6_init_5 : decode cX6_init 5 = .ok (.sipush 200, 3) := by decide +kernel
theorem dX6_init_8 : decode cX6_init 8 = .ok (.newarray .int, 2) := by decide +kernel
theorem dX6_init_10 : decode cX6_init 10 = .ok (.putfield 9, 3) := by decide +kernel
theorem dX6_init_13 : decode cX6_init 13 = .ok (.aload_n 0, 1) := by decide +kernel
theorem dX6_init_14 : decode cX6_init 14 = .ok (.bipush 56, 2) := by decide +kernel
theorem dX6_init_16 : decode cX6_init 16 = .ok (.newarray .int, 2) := by decide +kernel
theorem dX6_init_18 : decode cX6_init 18 = .ok (.putfield 15, 3) := by decide +kernel
theorem dX6_init_21 : decode cX6_init 21 = .ok (.return_, 1) := by decide +kernel
theorem dX6_add_0 : decode cX6_add 0 = .ok (.aload_n 0, 1) := by decide +kernel
theorem dX6_add_1 : decode cX6_add 1 = .ok (.getfield 18, 3) := by decide +kernel
theorem dX6_add_4 : decode cX6_add 4 = .ok (.sipush 200, 3) := by decide +kernel
theorem dX6_add_7 : decode cX6_add 7 = .ok (.if_icmp .ge 23, 3) := by decide +kernel
theorem dX6_add_10 : decode cX6_add 10 = .ok (.aload_n 0, 1) := by decide +kernel
theorem dX6_add_11 : decode cX6_add 11 = .ok (.getfield 9, 3) := by decide +kernel
theorem dX6_add_14 : decode cX6_add 14 = .ok (.aload_n 0, 1) := by decide +kernel
theorem dX6_add_15 : decode cX6_add 15 = .ok (.getfield 18, 3) := by decide +kernel
theorem dX6_add_18 : decode cX6_add 18 = .ok (.iload_n 1, 1) := by decide +kernel
theorem dX6_add_19 : decode cX6_add 19 = .ok (.iastore, 1) := by decide +kernel
theorem dX6_add_20 : decode cX6_add 20 = .ok (.aload_n 0, 1) := by decide +kernel
theorem dX6_add_21 : decode cX6_add 21 = .ok (.dup, 1) := by decide +kernel
theorem dX6_add_22 : decode cX6_add 22 = .ok (.getfield 18, 3) := by decide +kernel
theorem dX6_add_25 : decode cX6_add 25 = .ok (.iconst 1, 1) := by decide +kernel
theorem dX6_add_26 : decode cX6_add 26 = .ok (.iadd, 1) := by decide +kernel
theorem dX6_add_27 : decode cX6_add 27 = .ok (.putfield 18, 3) := by decide +kernel
theorem dX6_add_30 : decode cX6_add 30 = .ok (.return_, 1) := by decide +kernel
theorem dX6_read_0 : decode cX6_read 0 = .ok (.iload_n 1, 1) := by decide +kernel
theorem dX6_read_1 : decode cX6_read 1 = .ok (.istore_n 2, 1) := by decide +kernel
theorem dX6_read_2 : decode cX6_read 2 = .ok (.aload_n 0, 1) := by decide +kernel
theorem dX6_read_3 : decode cX6_read 3 = .ok (.iconst 0, 1) := by decide +kernel
theorem dX6_read_4 : decode cX6_read 4 = .ok (.putfield 22, 3) := by decide +kernel
theorem dX6_read_7 : decode cX6_read 7 = .ok (.aload_n 0, 1) := by decide +kernel
theorem dX6_read_8 : decode cX6_read 8 = .ok (.iconst 0, 1) := by decide +kernel
theorem dX6_read_9 : decode cX6_read 9 = .ok (.putfield 25, 3) := by decide +kernel
theorem dX6_read_12 : decode cX6_read 12 = .ok (.iconst 0, 1) := by decide +kernel
theorem dX6_read_13 : decode cX6_read 13 = .ok (.istore_n 3, 1) := by decide +kernel
theorem dX6_read_14 : decode cX6_read 14 = .ok (.iload_n 3, 1) := by decide +kernel
theorem dX6_read_15 : decode cX6_read 15 = .ok (.bipush 14, 2) := by decide +kernel
theorem dX6_read_17 : decode cX6_read 17 = .ok (.if_icmp .ge 90, 3) := by decide +kernel
theorem dX6_read_20 : decode cX6_read 20 = .ok (.aload_n 0, 1) := by decide +kernel
theorem dX6_read_21 : decode cX6_read 21 = .ok (.iload_n 3, 1) := by decide +kernel
theorem dX6_read_22 : decode cX6_read 22 = .ok (.iconst 4, 1) := by decide +kernel
theorem dX6_read_23 : decode cX6_read 23 = .ok (.imul, 1) := by decide +kernel
theorem dX6_read_24 : decode cX6_read 24 = .ok (.iload_n 2, 1) := by decide +kernel
theorem dX6_read_25 : decode cX6_read 25 = .ok (.invokevirtual 28, 3) := by decide +kernel
theorem dX6_read_28 : decode cX6_read 28 = .ok (.ifCond .ne 8, 3) := by decide +kernel
theorem dX6_read_31 : decode cX6_read 31 = .ok (.aload_n 0, 1) := by decide +kernel
theorem dX6_read_32 : decode cX6_read 32 = .ok (.getfield 32, 3) := by decide +kernel
theorem dX6_read_35 : decode cX6_read 35 = .ok (.ireturn, 1) := by decide +kernel
theorem dX6_read_36 : decode cX6_read 36 = .ok (.aload_n 0, 1) := by decide +kernel
theorem dX6_read_37 : decode cX6_read 37 = .ok (.iload_n 3, 1) := by decide +kernel
theorem dX6_read_38 : decode cX6_read 38 = .ok (.iconst 1, 1) := by decide +kernel
theorem dX6_read_39 : decode cX6_read 39 = .ok (.iadd, 1) := by decide +kernel
theorem dX6_read_40 : decode cX6_read 40 = .ok (.putfield 25, 3) := by decide +kernel
theorem dX6_read_43 : decode cX6_read 43 = .ok (.aload_n 0, 1) := by decide +kernel
theorem dX6_read_44 : decode cX6_read 44 = .ok (.getfield 15, 3) := by decide +kernel
theorem dX6_read_47 : decode cX6_read 47 = .ok (.iload_n 3, 1) := by decide +kernel
theorem dX6_read_48 : decode cX6_read 48 = .ok (.iconst 4, 1) := by decide +kernel
theorem dX6_read_49 : decode cX6_read 49 = .ok (.imul, 1) := by decide +kernel
theorem dX6_read_50 : decode cX6_read 50 = .ok (.iaload, 1) := by decide +kernel
theorem dX6_read_51 : decode cX6_read 51 = .ok (.ifCond .ne 14, 3) := by decide +kernel
theorem dX6_read_54 : decode cX6_read 54 = .ok (.aload_n 0, 1) := by decide +kernel
theorem dX6_read_55 : decode cX6_read 55 = .ok (.getfield 15, 3) := by decide +kernel
theorem dX6_read_58 : decode cX6_read 58 = .ok (.iload_n 3, 1) := by decide +kernel
theorem dX6_read_59 : decode cX6_read 59 = .ok (.iconst 4, 1) := by decide +kernel
theorem dX6_read_60 : decode cX6_read 60 = .ok (.imul, 1) := by decide +kernel
theorem dX6_read_61 : decode cX6_read 61 = .ok (.iconst 1, 1) := by decide +kernel
theorem dX6_read_62 : decode cX6_read 62 = .ok (.iadd, 1) := by decide +kernel
theorem dX6_read_63 : decode cX6_read 63 = .ok (.iaload, 1) := by decide +kernel
theorem dX6_read_64 : decode cX6_read 64 = .ok (.istore_n 2, 1) := by decide +kernel
theorem dX6_read_65 : decode cX6_read 65 = .ok (.aload_n 0, 1) := by decide +kernel
theorem dX6_read_66 : decode cX6_read 66 = .ok (.invokevirtual 35, 3) := by decide +kernel
theorem dX6_read_69 : decode cX6_read 69 = .ok (.aload_n 0, 1) := by decide +kernel
theorem dX6_read_70 : decode cX6_read 70 = .ok (.getfield 32, 3) := by decide +kernel
theorem dX6_read_73 : decode cX6_read 73 = .ok (.aload_n 0, 1) := by decide +kernel
theorem dX6_read_74 : decode cX6_read 74 = .ok (.getfield 18, 3) := by decide +kernel
theorem dX6_read_77 : decode cX6_read 77 = .ok (.if_icmp .lt 5, 3) := by decide +kernel
theorem dX6_read_80 : decode cX6_read 80 = .ok (.iconst (-1), 1) := by decide +kernel
theorem dX6_read_81 : decode cX6_read 81 = .ok (.ireturn, 1) := by decide +kernel
theorem dX6_read_82 : decode cX6_read 82 = .ok (.aload_n 0, 1) := by decide +kernel
theorem dX6_read_83 : decode cX6_read 83 = .ok (.getfield 9, 3) := by decide +kernel
theorem dX6_read_86 : decode cX6_read 86 = .ok (.aload_n 0, 1) := by decide +kernel
theorem dX6_read_87 : decode cX6_read 87 = .ok (.getfield 32, 3) := by decide +kernel
theorem dX6_read_90 : decode cX6_read 90 = .ok (.iaload, 1) := by decide +kernel
theorem dX6_read_91 : decode cX6_read 91 = .ok (.bipush 59, 2) := by decide +kernel
theorem dX6_read_93 : decode cX6_read 93 = .ok (.if_icmp .eq 8, 3) := by decide +kernel
theorem dX6_read_96 : decode cX6_read 96 = .ok (.aload_n 0, 1) := by decide +kernel
theorem dX6_read_97 : decode cX6_read 97 = .ok (.getfield 32, 3) := by decide +kernel
theorem dX6_read_100 : decode cX6_read 100 = .ok (.ireturn, 1) := by decide +kernel
theorem dX6_read_101 : decode cX6_read 101 = .ok (.iinc 3 1, 3) := by decide +kernel
theorem dX6_read_104 : decode cX6_read 104 = .ok (.goto (-90), 3) := by decide +kernel
theorem dX6_read_107 : decode cX6_read 107 = .ok (.aload_n 0, 1) := by decide +kernel
theorem dX6_read_108 : decode cX6_read 108 = .ok (.getfield 32, 3) := by decide +kernel
theorem dX6_read_111 : decode cX6_read 111 = .ok (.ireturn, 1) := by decide +kernel
theorem dX6_readLine_0 : decode cX6_readLine 0 = .ok (.aload_n 0, 1) := by decide +kernel
theorem dX6_readLine_1 : decode cX6_readLine 1 = .ok (.invokevirtual 35, 3) := by decide +kernel
theorem dX6_readLine_4 : decode cX6_readLine 4 = .ok (.aload_n 0, 1) := by decide +kernel
theorem dX6_readLine_5 : decode cX6_readLine 5 = .ok (.invokevirtual 38, 3) := by decide +kernel
theorem dX6_readLine_8 : decode cX6_readLine 8 = .ok (.istore_n 3, 1) := by decide +kernel
theorem dX6_readLine_9 : decode cX6_readLine 9 = .ok (.iload_n 3, 1) := by decide +kernel
theorem dX6_readLine_10 : decode cX6_readLine 10 = .ok (.iconst (-1), 1) := by decide +kernel
theorem dX6_readLine_11 : decode cX6_readLine 11 = .ok (.if_icmp .ne 5, 3) := by decide +kernel
theorem dX6_readLine_14 : decode cX6_readLine 14 = .ok (.iconst 0, 1) := by decide +kernel
theorem dX6_readLine_15 : decode cX6_readLine 15 = .ok (.ireturn, 1) := by decide +kernel
theorem dX6_readLine_16 : decode cX6_readLine 16 = .ok (.aload_n 0, 1) := by decide +kernel
theorem dX6_readLine_17 : decode cX6_readLine 17 = .ok (.getfield 15, 3) := by decide +kernel
theorem dX6_readLine_20 : decode cX6_readLine 20 = .ok (.iload_n 1, 1) := by decide +kernel
theorem dX6_readLine_21 : decode cX6_readLine 21 = .ok (.iload_n 3, 1) := by decide +kernel
theorem dX6_readLine_22 : decode cX6_readLine 22 = .ok (.iastore, 1) := by decide +kernel
theorem dX6_readLine_23 : decode cX6_readLine 23 = .ok (.iload_n 3, 1) := by decide +kernel
theorem dX6_readLine_24 : decode cX6_readLine 24 = .ok (.invokestatic 42, 3) := by decide +kernel
theorem dX6_readLine_27 : decode cX6_readLine 27 = .ok (.istore 4, 2) := by decide +kernel
theorem dX6_readLine_29 : decode cX6_readLine 29 = .ok (.iconst 1, 1) := by decide +kernel
theorem dX6_readLine_30 : decode cX6_readLine 30 = .ok (.istore 5, 2) := by decide +kernel
theorem dX6_readLine_32 : decode cX6_readLine 32 = .ok (.iload 5, 2) := by decide +kernel
theorem dX6_readLine_34 : decode cX6_readLine 34 = .ok (.iload 4, 2) := by decide +kernel
theorem dX6_readLine_36 : decode cX6_readLine 36 = .ok (.if_icmp .gt 44, 3) := by decide +kernel
theorem dX6_readLine_39 : decode cX6_readLine 39 = .ok (.aload_n 0, 1) := by decide +kernel
theorem dX6_readLine_40 : decode cX6_readLine 40 = .ok (.invokevirtual 35, 3) := by decide +kernel
theorem dX6_readLine_43 : decode cX6_readLine 43 = .ok (.aload_n 0, 1) := by decide +kernel
theorem dX6_readLine_44 : decode cX6_readLine 44 = .ok (.invokevirtual 46, 3) := by decide +kernel
theorem dX6_readLine_47 : decode cX6_readLine 47 = .ok (.istore 6, 2) := by decide +kernel
theorem dX6_readLine_49 : decode cX6_readLine 49 = .ok (.iload_n 3, 1) := by decide +kernel
theorem dX6_readLine_50 : decode cX6_readLine 50 = .ok (.iload 5, 2) := by decide +kernel
theorem dX6_readLine_52 : decode cX6_readLine 52 = .ok (.iload 6, 2) := by decide +kernel
theorem dX6_readLine_54 : decode cX6_readLine 54 = .ok (.iload_n 2, 1) := by decide +kernel
theorem dX6_readLine_55 : decode cX6_readLine 55 = .ok (.invokestatic 49, 3) := by decide +kernel
theorem dX6_readLine_58 : decode cX6_readLine 58 = .ok (.ifCond .ne 5, 3) := by decide +kernel
theorem dX6_readLine_61 : decode cX6_readLine 61 = .ok (.iconst 0, 1) := by decide +kernel
theorem dX6_readLine_62 : decode cX6_readLine 62 = .ok (.ireturn, 1) := by decide +kernel
theorem dX6_readLine_63 : decode cX6_readLine 63 = .ok (.aload_n 0, 1) := by decide +kernel
theorem dX6_readLine_64 : decode cX6_readLine 64 = .ok (.getfield 15, 3) := by decide +kernel
theorem dX6_readLine_67 : decode cX6_readLine 67 = .ok (.iload_n 1, 1) := by decide +kernel
theorem dX6_readLine_68 : decode cX6_readLine 68 = .ok (.iload 5, 2) := by decide +kernel
theorem dX6_readLine_70 : decode cX6_readLine 70 = .ok (.iadd, 1) := by decide +kernel
theorem dX6_readLine_71 : decode cX6_readLine 71 = .ok (.iload 6, 2) := by decide +kernel
theorem dX6_readLine_73 : decode cX6_readLine 73 = .ok (.iastore, 1) := by decide +kernel
theorem dX6_readLine_74 : decode cX6_readLine 74 = .ok (.iinc 5 1, 3) := by decide +kernel
theorem dX6_readLine_77 : decode cX6_readLine 77 = .ok (.goto (-45), 3) := by decide +kernel
theorem dX6_readLine_80 : decode cX6_readLine 80 = .ok (.iconst 1, 1) := by decide +kernel
theorem dX6_readLine_81 : decode cX6_readLine 81 = .ok (.ireturn, 1) := by decide +kernel
theorem dX6_nextToken_0 : decode cX6_nextToken 0 = .ok (.aload_n 0, 1) := by decide +kernel
theorem dX6_nextToken_1 : decode cX6_nextToken 1 = .ok (.getfield 22, 3) := by decide +kernel
theorem dX6_nextToken_4 : decode cX6_nextToken 4 = .ok (.istore_n 1, 1) := by decide +kernel
theorem dX6_nextToken_5 : decode cX6_nextToken 5 = .ok (.iload_n 1, 1) := by decide +kernel
theorem dX6_nextToken_6 : decode cX6_nextToken 6 = .ok (.aload_n 0, 1) := by decide +kernel
theorem dX6_nextToken_7 : decode cX6_nextToken 7 = .ok (.getfield 18, 3) := by decide +kernel
theorem dX6_nextToken_10 : decode cX6_nextToken 10 = .ok (.if_icmp .ge 20, 3) := by decide +kernel
theorem dX6_nextToken_13 : decode cX6_nextToken 13 = .ok (.aload_n 0, 1) := by decide +kernel
theorem dX6_nextToken_14 : decode cX6_nextToken 14 = .ok (.getfield 9, 3) := by decide +kernel
theorem dX6_nextToken_17 : decode cX6_nextToken 17 = .ok (.iload_n 1, 1) := by decide +kernel
theorem dX6_nextToken_18 : decode cX6_nextToken 18 = .ok (.iaload, 1) := by decide +kernel
theorem dX6_nextToken_19 : decode cX6_nextToken 19 = .ok (.bipush 32, 2) := by decide +kernel
theorem dX6_nextToken_21 : decode cX6_nextToken 21 = .ok (.if_icmp .ne 9, 3) := by decide +kernel
theorem dX6_nextToken_24 : decode cX6_nextToken 24 = .ok (.iinc 1 1, 3) := by decide +kernel
theorem dX6_nextToken_27 : decode cX6_nextToken 27 = .ok (.goto (-22), 3) := by decide +kernel
theorem dX6_nextToken_30 : decode cX6_nextToken 30 = .ok (.aload_n 0, 1) := by decide +kernel
theorem dX6_nextToken_31 : decode cX6_nextToken 31 = .ok (.iload_n 1, 1) := by decide +kernel
theorem dX6_nextToken_32 : decode cX6_nextToken 32 = .ok (.putfield 32, 3) := by decide +kernel
theorem dX6_nextToken_35 : decode cX6_nextToken 35 = .ok (.iload_n 1, 1) := by decide +kernel
theorem dX6_nextToken_36 : decode cX6_nextToken 36 = .ok (.aload_n 0, 1) := by decide +kernel
theorem dX6_nextToken_37 : decode cX6_nextToken 37 = .ok (.getfield 18, 3) := by decide +kernel
theorem dX6_nextToken_40 : decode cX6_nextToken 40 = .ok (.if_icmp .ge 41, 3) := by decide +kernel
theorem dX6_nextToken_43 : decode cX6_nextToken 43 = .ok (.aload_n 0, 1) := by decide +kernel
theorem dX6_nextToken_44 : decode cX6_nextToken 44 = .ok (.getfield 9, 3) := by decide +kernel
theorem dX6_nextToken_47 : decode cX6_nextToken 47 = .ok (.iload_n 1, 1) := by decide +kernel
theorem dX6_nextToken_48 : decode cX6_nextToken 48 = .ok (.iaload, 1) := by decide +kernel
theorem dX6_nextToken_49 : decode cX6_nextToken 49 = .ok (.invokestatic 53, 3) := by decide +kernel
theorem dX6_nextToken_52 : decode cX6_nextToken 52 = .ok (.ifCond .eq 29, 3) := by decide +kernel
theorem dX6_nextToken_55 : decode cX6_nextToken 55 = .ok (.iload_n 1, 1) := by decide +kernel
theorem dX6_nextToken_56 : decode cX6_nextToken 56 = .ok (.aload_n 0, 1) := by decide +kernel
theorem dX6_nextToken_57 : decode cX6_nextToken 57 = .ok (.getfield 18, 3) := by decide +kernel
theorem dX6_nextToken_60 : decode cX6_nextToken 60 = .ok (.if_icmp .ge 78, 3) := by decide +kernel
theorem dX6_nextToken_63 : decode cX6_nextToken 63 = .ok (.aload_n 0, 1) := by decide +kernel
theorem dX6_nextToken_64 : decode cX6_nextToken 64 = .ok (.getfield 9, 3) := by decide +kernel
theorem dX6_nextToken_67 : decode cX6_nextToken 67 = .ok (.iload_n 1, 1) := by decide +kernel
theorem dX6_nextToken_68 : decode cX6_nextToken 68 = .ok (.iaload, 1) := by decide +kernel
theorem dX6_nextToken_69 : decode cX6_nextToken 69 = .ok (.invokestatic 53, 3) := by decide +kernel
theorem dX6_nextToken_72 : decode cX6_nextToken 72 = .ok (.ifCond .eq 66, 3) := by decide +kernel
theorem dX6_nextToken_75 : decode cX6_nextToken 75 = .ok (.iinc 1 1, 3) := by decide +kernel
theorem dX6_nextToken_78 : decode cX6_nextToken 78 = .ok (.goto (-23), 3) := by decide +kernel
theorem dX6_nextToken_81 : decode cX6_nextToken 81 = .ok (.iload_n 1, 1) := by decide +kernel
theorem dX6_nextToken_82 : decode cX6_nextToken 82 = .ok (.aload_n 0, 1) := by decide +kernel
theorem dX6_nextToken_83 : decode cX6_nextToken 83 = .ok (.getfield 18, 3) := by decide +kernel
theorem dX6_nextToken_86 : decode cX6_nextToken 86 = .ok (.if_icmp .ge 41, 3) := by decide +kernel
theorem dX6_nextToken_89 : decode cX6_nextToken 89 = .ok (.aload_n 0, 1) := by decide +kernel
theorem dX6_nextToken_90 : decode cX6_nextToken 90 = .ok (.getfield 9, 3) := by decide +kernel
theorem dX6_nextToken_93 : decode cX6_nextToken 93 = .ok (.iload_n 1, 1) := by decide +kernel
theorem dX6_nextToken_94 : decode cX6_nextToken 94 = .ok (.iaload, 1) := by decide +kernel
theorem dX6_nextToken_95 : decode cX6_nextToken 95 = .ok (.invokestatic 57, 3) := by decide +kernel
theorem dX6_nextToken_98 : decode cX6_nextToken 98 = .ok (.ifCond .eq 29, 3) := by decide +kernel
theorem dX6_nextToken_101 : decode cX6_nextToken 101 = .ok (.iload_n 1, 1) := by decide +kernel
theorem dX6_nextToken_102 : decode cX6_nextToken 102 = .ok (.aload_n 0, 1) := by decide +kernel
theorem dX6_nextToken_103 : decode cX6_nextToken 103 = .ok (.getfield 18, 3) := by decide +kernel
theorem dX6_nextToken_106 : decode cX6_nextToken 106 = .ok (.if_icmp .ge 32, 3) := by decide +kernel
theorem dX6_nextToken_109 : decode cX6_nextToken 109 = .ok (.aload_n 0, 1) := by decide +kernel
theorem dX6_nextToken_110 : decode cX6_nextToken 110 = .ok (.getfield 9, 3) := by decide +kernel
theorem dX6_nextToken_113 : decode cX6_nextToken 113 = .ok (.iload_n 1, 1) := by decide +kernel
theorem dX6_nextToken_114 : decode cX6_nextToken 114 = .ok (.iaload, 1) := by decide +kernel
theorem dX6_nextToken_115 : decode cX6_nextToken 115 = .ok (.invokestatic 57, 3) := by decide +kernel
theorem dX6_nextToken_118 : decode cX6_nextToken 118 = .ok (.ifCond .eq 20, 3) := by decide +kernel
theorem dX6_nextToken_121 : decode cX6_nextToken 121 = .ok (.iinc 1 1, 3) := by decide +kernel
theorem dX6_nextToken_124 : decode cX6_nextToken 124 = .ok (.goto (-23), 3) := by decide +kernel
theorem dX6_nextToken_127 : decode cX6_nextToken 127 = .ok (.iload_n 1, 1) := by decide +kernel
theorem dX6_nextToken_128 : decode cX6_nextToken 128 = .ok (.aload_n 0, 1) := by decide +kernel
theorem dX6_nextToken_129 : decode cX6_nextToken 129 = .ok (.getfield 18, 3) := by decide +kernel
theorem dX6_nextToken_132 : decode cX6_nextToken 132 = .ok (.if_icmp .ge 6, 3) := by decide +kernel
theorem dX6_nextToken_135 : decode cX6_nextToken 135 = .ok (.iinc 1 1, 3) := by decide +kernel
theorem dX6_nextToken_138 : decode cX6_nextToken 138 = .ok (.aload_n 0, 1) := by decide +kernel
theorem dX6_nextToken_139 : decode cX6_nextToken 139 = .ok (.iload_n 1, 1) := by decide +kernel
theorem dX6_nextToken_140 : decode cX6_nextToken 140 = .ok (.putfield 22, 3) := by decide +kernel
theorem dX6_nextToken_143 : decode cX6_nextToken 143 = .ok (.return_, 1) := by decide +kernel
theorem dX6_isLetter_0 : decode cX6_isLetter 0 = .ok (.iload_n 0, 1) := by decide +kernel
theorem dX6_isLetter_1 : decode cX6_isLetter 1 = .ok (.bipush 97, 2) := by decide +kernel
theorem dX6_isLetter_3 : decode cX6_isLetter 3 = .ok (.if_icmp .lt 13, 3) := by decide +kernel
theorem dX6_isLetter_6 : decode cX6_isLetter 6 = .ok (.iload_n 0, 1) := by decide +kernel
theorem dX6_isLetter_7 : decode cX6_isLetter 7 = .ok (.bipush 122, 2) := by decide +kernel
theorem dX6_isLetter_9 : decode cX6_isLetter 9 = .ok (.if_icmp .gt 7, 3) := by decide +kernel
theorem dX6_isLetter_12 : decode cX6_isLetter 12 = .ok (.iconst 1, 1) := by decide +kernel
theorem dX6_isLetter_13 : decode cX6_isLetter 13 = .ok (.goto 4, 3) := by decide +kernel
theorem dX6_isLetter_16 : decode cX6_isLetter 16 = .ok (.iconst 0, 1) := by decide +kernel
theorem dX6_isLetter_17 : decode cX6_isLetter 17 = .ok (.ireturn, 1) := by decide +kernel
theorem dX6_isDigit_0 : decode cX6_isDigit 0 = .ok (.iload_n 0, 1) := by decide +kernel
theorem dX6_isDigit_1 : decode cX6_isDigit 1 = .ok (.bipush 48, 2) := by decide +kernel
theorem dX6_isDigit_3 : decode cX6_isDigit 3 = .ok (.if_icmp .lt 13, 3) := by decide +kernel
theorem dX6_isDigit_6 : decode cX6_isDigit 6 = .ok (.iload_n 0, 1) := by decide +kernel
theorem dX6_isDigit_7 : decode cX6_isDigit 7 = .ok (.bipush 57, 2) := by decide +kernel
theorem dX6_isDigit_9 : decode cX6_isDigit 9 = .ok (.if_icmp .gt 7, 3) := by decide +kernel
theorem dX6_isDigit_12 : decode cX6_isDigit 12 = .ok (.iconst 1, 1) := by decide +kernel
theorem dX6_isDigit_13 : decode cX6_isDigit 13 = .ok (.goto 4, 3) := by decide +kernel
theorem dX6_isDigit_16 : decode cX6_isDigit 16 = .ok (.iconst 0, 1) := by decide +kernel
theorem dX6_isDigit_17 : decode cX6_isDigit 17 = .ok (.ireturn, 1) := by decide +kernel
theorem dX6_verbHere_0 : decode cX6_verbHere 0 = .ok (.aload_n 0, 1) := by decide +kernel
theorem dX6_verbHere_1 : decode cX6_verbHere 1 = .ok (.ldc 60, 2) := by decide +kernel
theorem dX6_verbHere_3 : decode cX6_verbHere 3 = .ok (.invokevirtual 62, 3) := by decide +kernel
theorem dX6_verbHere_6 : decode cX6_verbHere 6 = .ok (.ifCond .eq 5, 3) := by decide +kernel
theorem dX6_verbHere_9 : decode cX6_verbHere 9 = .ok (.iconst 0, 1) := by decide +kernel
theorem dX6_verbHere_10 : decode cX6_verbHere 10 = .ok (.ireturn, 1) := by decide +kernel
theorem dX6_verbHere_11 : decode cX6_verbHere 11 = .ok (.aload_n 0, 1) := by decide +kernel
theorem dX6_verbHere_12 : decode cX6_verbHere 12 = .ok (.ldc 66, 2) := by decide +kernel
theorem dX6_verbHere_14 : decode cX6_verbHere 14 = .ok (.invokevirtual 62, 3) := by decide +kernel
theorem dX6_verbHere_17 : decode cX6_verbHere 17 = .ok (.ifCond .eq 5, 3) := by decide +kernel
theorem dX6_verbHere_20 : decode cX6_verbHere 20 = .ok (.iconst 5, 1) := by decide +kernel
theorem dX6_verbHere_21 : decode cX6_verbHere 21 = .ok (.ireturn, 1) := by decide +kernel
theorem dX6_verbHere_22 : decode cX6_verbHere 22 = .ok (.aload_n 0, 1) := by decide +kernel
theorem dX6_verbHere_23 : decode cX6_verbHere 23 = .ok (.ldc 68, 2) := by decide +kernel
theorem dX6_verbHere_25 : decode cX6_verbHere 25 = .ok (.invokevirtual 62, 3) := by decide +kernel
theorem dX6_verbHere_28 : decode cX6_verbHere 28 = .ok (.ifCond .eq 6, 3) := by decide +kernel
theorem dX6_verbHere_31 : decode cX6_verbHere 31 = .ok (.bipush 6, 2) := by decide +kernel
theorem dX6_verbHere_33 : decode cX6_verbHere 33 = .ok (.ireturn, 1) := by decide +kernel
theorem dX6_verbHere_34 : decode cX6_verbHere 34 = .ok (.aload_n 0, 1) := by decide +kernel
theorem dX6_verbHere_35 : decode cX6_verbHere 35 = .ok (.ldc 70, 2) := by decide +kernel
theorem dX6_verbHere_37 : decode cX6_verbHere 37 = .ok (.invokevirtual 62, 3) := by decide +kernel
theorem dX6_verbHere_40 : decode cX6_verbHere 40 = .ok (.ifCond .eq 5, 3) := by decide +kernel
theorem dX6_verbHere_43 : decode cX6_verbHere 43 = .ok (.iconst 1, 1) := by decide +kernel
theorem dX6_verbHere_44 : decode cX6_verbHere 44 = .ok (.ireturn, 1) := by decide +kernel
theorem dX6_verbHere_45 : decode cX6_verbHere 45 = .ok (.aload_n 0, 1) := by decide +kernel
theorem dX6_verbHere_46 : decode cX6_verbHere 46 = .ok (.ldc 72, 2) := by decide +kernel
theorem dX6_verbHere_48 : decode cX6_verbHere 48 = .ok (.invokevirtual 62, 3) := by decide +kernel
theorem dX6_verbHere_51 : decode cX6_verbHere 51 = .ok (.ifCond .eq 5, 3) := by decide +kernel
theorem dX6_verbHere_54 : decode cX6_verbHere 54 = .ok (.iconst 2, 1) := by decide +kernel
theorem dX6_verbHere_55 : decode cX6_verbHere 55 = .ok (.ireturn, 1) := by decide +kernel
theorem dX6_verbHere_56 : decode cX6_verbHere 56 = .ok (.aload_n 0, 1) := by decide +kernel
theorem dX6_verbHere_57 : decode cX6_verbHere 57 = .ok (.ldc 74, 2) := by decide +kernel
theorem dX6_verbHere_59 : decode cX6_verbHere 59 = .ok (.invokevirtual 62, 3) := by decide +kernel
theorem dX6_verbHere_62 : decode cX6_verbHere 62 = .ok (.ifCond .eq 5, 3) := by decide +kernel
theorem dX6_verbHere_65 : decode cX6_verbHere 65 = .ok (.iconst 3, 1) := by decide +kernel
theorem dX6_verbHere_66 : decode cX6_verbHere 66 = .ok (.ireturn, 1) := by decide +kernel
theorem dX6_verbHere_67 : decode cX6_verbHere 67 = .ok (.aload_n 0, 1) := by decide +kernel
theorem dX6_verbHere_68 : decode cX6_verbHere 68 = .ok (.ldc 76, 2) := by decide +kernel
theorem dX6_verbHere_70 : decode cX6_verbHere 70 = .ok (.invokevirtual 62, 3) := by decide +kernel
theorem dX6_verbHere_73 : decode cX6_verbHere 73 = .ok (.ifCond .eq 5, 3) := by decide +kernel
theorem dX6_verbHere_76 : decode cX6_verbHere 76 = .ok (.iconst 4, 1) := by decide +kernel
theorem dX6_verbHere_77 : decode cX6_verbHere 77 = .ok (.ireturn, 1) := by decide +kernel
theorem dX6_verbHere_78 : decode cX6_verbHere 78 = .ok (.aload_n 0, 1) := by decide +kernel
theorem dX6_verbHere_79 : decode cX6_verbHere 79 = .ok (.ldc 78, 2) := by decide +kernel
theorem dX6_verbHere_81 : decode cX6_verbHere 81 = .ok (.invokevirtual 62, 3) := by decide +kernel
theorem dX6_verbHere_84 : decode cX6_verbHere 84 = .ok (.ifCond .eq 6, 3) := by decide +kernel
theorem dX6_verbHere_87 : decode cX6_verbHere 87 = .ok (.bipush 7, 2) := by decide +kernel
theorem dX6_verbHere_89 : decode cX6_verbHere 89 = .ok (.ireturn, 1) := by decide +kernel
theorem dX6_verbHere_90 : decode cX6_verbHere 90 = .ok (.aload_n 0, 1) := by decide +kernel
theorem dX6_verbHere_91 : decode cX6_verbHere 91 = .ok (.ldc 80, 2) := by decide +kernel
theorem dX6_verbHere_93 : decode cX6_verbHere 93 = .ok (.invokevirtual 62, 3) := by decide +kernel
theorem dX6_verbHere_96 : decode cX6_verbHere 96 = .ok (.ifCond .eq 8, 3) := by decide +kernel
theorem dX6_verbHere_99 : decode cX6_verbHere 99 = .ok (.bipush 8, 2) := by decide +kernel
theorem dX6_verbHere_101 : decode cX6_verbHere 101 = .ok (.goto 4, 3) := by decide +kernel
theorem dX6_verbHere_104 : decode cX6_verbHere 104 = .ok (.iconst (-1), 1) := by decide +kernel
theorem dX6_verbHere_105 : decode cX6_verbHere 105 = .ok (.ireturn, 1) := by decide +kernel
theorem dX6_spells_0 : decode cX6_spells 0 = .ok (.aload_n 0, 1) := by decide +kernel
theorem dX6_spells_1 : decode cX6_spells 1 = .ok (.getfield 22, 3) := by decide +kernel
theorem dX6_spells_4 : decode cX6_spells 4 = .ok (.aload_n 0, 1) := by decide +kernel
theorem dX6_spells_5 : decode cX6_spells 5 = .ok (.getfield 32, 3) := by decide +kernel
theorem dX6_spells_8 : decode cX6_spells 8 = .ok (.isub, 1) := by decide +kernel
theorem dX6_spells_9 : decode cX6_spells 9 = .ok (.aload_n 1, 1) := by decide +kernel
theorem dX6_spells_10 : decode cX6_spells 10 = .ok (.invokevirtual 82, 3) := by decide +kernel
theorem dX6_spells_13 : decode cX6_spells 13 = .ok (.if_icmp .eq 5, 3) := by decide +kernel
theorem dX6_spells_16 : decode cX6_spells 16 = .ok (.iconst 0, 1) := by decide +kernel
theorem dX6_spells_17 : decode cX6_spells 17 = .ok (.ireturn, 1) := by decide +kernel
theorem dX6_spells_18 : decode cX6_spells 18 = .ok (.iconst 0, 1) := by decide +kernel
theorem dX6_spells_19 : decode cX6_spells 19 = .ok (.istore_n 2, 1) := by decide +kernel
theorem dX6_spells_20 : decode cX6_spells 20 = .ok (.iload_n 2, 1) := by decide +kernel
theorem dX6_spells_21 : decode cX6_spells 21 = .ok (.aload_n 1, 1) := by decide +kernel
theorem dX6_spells_22 : decode cX6_spells 22 = .ok (.invokevirtual 82, 3) := by decide +kernel
theorem dX6_spells_25 : decode cX6_spells 25 = .ok (.if_icmp .ge 30, 3) := by decide +kernel
theorem dX6_spells_28 : decode cX6_spells 28 = .ok (.aload_n 0, 1) := by decide +kernel
theorem dX6_spells_29 : decode cX6_spells 29 = .ok (.getfield 9, 3) := by decide +kernel
theorem dX6_spells_32 : decode cX6_spells 32 = .ok (.aload_n 0, 1) := by decide +kernel
theorem dX6_spells_33 : decode cX6_spells 33 = .ok (.getfield 32, 3) := by decide +kernel
theorem dX6_spells_36 : decode cX6_spells 36 = .ok (.iload_n 2, 1) := by decide +kernel
theorem dX6_spells_37 : decode cX6_spells 37 = .ok (.iadd, 1) := by decide +kernel
theorem dX6_spells_38 : decode cX6_spells 38 = .ok (.iaload, 1) := by decide +kernel
theorem dX6_spells_39 : decode cX6_spells 39 = .ok (.aload_n 1, 1) := by decide +kernel
theorem dX6_spells_40 : decode cX6_spells 40 = .ok (.iload_n 2, 1) := by decide +kernel
theorem dX6_spells_41 : decode cX6_spells 41 = .ok (.invokevirtual 86, 3) := by decide +kernel
theorem dX6_spells_44 : decode cX6_spells 44 = .ok (.if_icmp .eq 5, 3) := by decide +kernel
theorem dX6_spells_47 : decode cX6_spells 47 = .ok (.iconst 0, 1) := by decide +kernel
theorem dX6_spells_48 : decode cX6_spells 48 = .ok (.ireturn, 1) := by decide +kernel
theorem dX6_spells_49 : decode cX6_spells 49 = .ok (.iinc 2 1, 3) := by decide +kernel
theorem dX6_spells_52 : decode cX6_spells 52 = .ok (.goto (-32), 3) := by decide +kernel
theorem dX6_spells_55 : decode cX6_spells 55 = .ok (.iconst 1, 1) := by decide +kernel
theorem dX6_spells_56 : decode cX6_spells 56 = .ok (.ireturn, 1) := by decide +kernel
theorem dX6_numberHere_0 : decode cX6_numberHere 0 = .ok (.aload_n 0, 1) := by decide +kernel
theorem dX6_numberHere_1 : decode cX6_numberHere 1 = .ok (.getfield 22, 3) := by decide +kernel
theorem dX6_numberHere_4 : decode cX6_numberHere 4 = .ok (.aload_n 0, 1) := by decide +kernel
theorem dX6_numberHere_5 : decode cX6_numberHere 5 = .ok (.getfield 32, 3) := by decide +kernel
theorem dX6_numberHere_8 : decode cX6_numberHere 8 = .ok (.isub, 1) := by decide +kernel
theorem dX6_numberHere_9 : decode cX6_numberHere 9 = .ok (.istore_n 1, 1) := by decide +kernel
theorem dX6_numberHere_10 : decode cX6_numberHere 10 = .ok (.iload_n 1, 1) := by decide +kernel
theorem dX6_numberHere_11 : decode cX6_numberHere 11 = .ok (.iconst 1, 1) := by decide +kernel
theorem dX6_numberHere_12 : decode cX6_numberHere 12 = .ok (.if_icmp .lt 23, 3) := by decide +kernel
theorem dX6_numberHere_15 : decode cX6_numberHere 15 = .ok (.iload_n 1, 1) := by decide +kernel
theorem dX6_numberHere_16 : decode cX6_numberHere 16 = .ok (.iconst 2, 1) := by decide +kernel
theorem dX6_numberHere_17 : decode cX6_numberHere 17 = .ok (.if_icmp .gt 18, 3) := by decide +kernel
theorem dX6_numberHere_20 : decode cX6_numberHere 20 = .ok (.aload_n 0, 1) := by decide +kernel
theorem dX6_numberHere_21 : decode cX6_numberHere 21 = .ok (.getfield 9, 3) := by decide +kernel
theorem dX6_numberHere_24 : decode cX6_numberHere 24 = .ok (.aload_n 0, 1) := by decide +kernel
theorem dX6_numberHere_25 : decode cX6_numberHere 25 = .ok (.getfield 32, 3) := by decide +kernel
theorem dX6_numberHere_28 : decode cX6_numberHere 28 = .ok (.iaload, 1) := by decide +kernel
theorem dX6_numberHere_29 : decode cX6_numberHere 29 = .ok (.invokestatic 57, 3) := by decide +kernel
theorem dX6_numberHere_32 : decode cX6_numberHere 32 = .ok (.ifCond .ne 5, 3) := by decide +kernel
theorem dX6_numberHere_35 : decode cX6_numberHere 35 = .ok (.iconst (-1), 1) := by decide +kernel
theorem dX6_numberHere_36 : decode cX6_numberHere 36 = .ok (.ireturn, 1) := by decide +kernel
theorem dX6_numberHere_37 : decode cX6_numberHere 37 = .ok (.iconst 0, 1) := by decide +kernel
theorem dX6_numberHere_38 : decode cX6_numberHere 38 = .ok (.istore_n 2, 1) := by decide +kernel
theorem dX6_numberHere_39 : decode cX6_numberHere 39 = .ok (.aload_n 0, 1) := by decide +kernel
theorem dX6_numberHere_40 : decode cX6_numberHere 40 = .ok (.getfield 32, 3) := by decide +kernel
theorem dX6_numberHere_43 : decode cX6_numberHere 43 = .ok (.istore_n 3, 1) := by decide +kernel
theorem dX6_numberHere_44 : decode cX6_numberHere 44 = .ok (.iload_n 3, 1) := by decide +kernel
theorem dX6_numberHere_45 : decode cX6_numberHere 45 = .ok (.aload_n 0, 1) := by decide +kernel
theorem dX6_numberHere_46 : decode cX6_numberHere 46 = .ok (.getfield 22, 3) := by decide +kernel
theorem dX6_numberHere_49 : decode cX6_numberHere 49 = .ok (.if_icmp .ge 24, 3) := by decide +kernel
theorem dX6_numberHere_52 : decode cX6_numberHere 52 = .ok (.bipush 10, 2) := by decide +kernel
theorem dX6_numberHere_54 : decode cX6_numberHere 54 = .ok (.iload_n 2, 1) := by decide +kernel
theorem dX6_numberHere_55 : decode cX6_numberHere 55 = .ok (.imul, 1) := by decide +kernel
theorem dX6_numberHere_56 : decode cX6_numberHere 56 = .ok (.aload_n 0, 1) := by decide +kernel
theorem dX6_numberHere_57 : decode cX6_numberHere 57 = .ok (.getfield 9, 3) := by decide +kernel
theorem dX6_numberHere_60 : decode cX6_numberHere 60 = .ok (.iload_n 3, 1) := by decide +kernel
theorem dX6_numberHere_61 : decode cX6_numberHere 61 = .ok (.iaload, 1) := by decide +kernel
theorem dX6_numberHere_62 : decode cX6_numberHere 62 = .ok (.iadd, 1) := by decide +kernel
theorem dX6_numberHere_63 : decode cX6_numberHere 63 = .ok (.bipush 48, 2) := by decide +kernel
theorem dX6_numberHere_65 : decode cX6_numberHere 65 = .ok (.isub, 1) := by decide +kernel
theorem dX6_numberHere_66 : decode cX6_numberHere 66 = .ok (.istore_n 2, 1) := by decide +kernel
theorem dX6_numberHere_67 : decode cX6_numberHere 67 = .ok (.iinc 3 1, 3) := by decide +kernel
theorem dX6_numberHere_70 : decode cX6_numberHere 70 = .ok (.goto (-26), 3) := by decide +kernel
theorem dX6_numberHere_73 : decode cX6_numberHere 73 = .ok (.iload_n 2, 1) := by decide +kernel
theorem dX6_numberHere_74 : decode cX6_numberHere 74 = .ok (.ireturn, 1) := by decide +kernel
theorem dX6_numbersOf_0 : decode cX6_numbersOf 0 = .ok (.iload_n 0, 1) := by decide +kernel
theorem dX6_numbersOf_1 : decode cX6_numbersOf 1 = .ok (.tableswitch 35 5 8 #[31, 31, 35, 33], 31) := by decide +kernel
