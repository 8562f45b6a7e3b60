theorem dX4_layRows_48 : decode cX4_layRows 48 = .ok (.iadd, 1) := by decide +kernel
theorem dX4_layRows_49 : decode cX4_layRows 49 = .ok (.aload_n 0, 1) := by decide +kernel
theorem dX4_layRows_50 : decode cX4_layRows 50 = .ok (.getfield 9, 3) := by decide +kernel
theorem dX4_layRows_53 : decode cX4_layRows 53 = .ok (.iload 4, 2) := by decide +kernel
theorem dX4_layRows_55 : decode cX4_layRows 55 = .ok (.iaload, 1) := by decide +kernel
theorem dX4_layRows_56 : decode cX4_layRows 56 = .ok (.iastore, 1) := by decide +kernel
theorem dX4_layRows_57 : decode cX4_layRows 57 = .ok (.iload_n 3, 1) := by decide +kernel
theorem dX4_layRows_58 : decode cX4_layRows 58 = .ok (.ifCond .eq 26, 3) := by decide +kernel
theorem dX4_layRows_61 : decode cX4_layRows 61 = .ok (.aload_n 0, 1) := by decide +kernel
theorem dX4_layRows_62 : decode cX4_layRows 62 = .ok (.getfield 27, 3) := by decide +kernel
theorem dX4_layRows_65 : decode cX4_layRows 65 = .ok (.iload 4, 2) := by decide +kernel
theorem dX4_layRows_67 : decode cX4_layRows 67 = .ok (.aload_n 0, 1) := by decide +kernel
theorem dX4_layRows_68 : decode cX4_layRows 68 = .ok (.getfield 9, 3) := by decide +kernel
theorem dX4_layRows_71 : decode cX4_layRows 71 = .ok (.iload 4, 2) := by decide +kernel
theorem dX4_layRows_73 : decode cX4_layRows 73 = .ok (.iaload, 1) := by decide +kernel
theorem dX4_layRows_74 : decode cX4_layRows 74 = .ok (.invokevirtual 63, 3) := by decide +kernel
theorem dX4_layRows_77 : decode cX4_layRows 77 = .ok (.ifCond .le 7, 3) := by decide +kernel
theorem dX4_layRows_80 : decode cX4_layRows 80 = .ok (.iconst 1, 1) := by decide +kernel
theorem dX4_layRows_81 : decode cX4_layRows 81 = .ok (.goto 4, 3) := by decide +kernel
theorem dX4_layRows_84 : decode cX4_layRows 84 = .ok (.iconst 0, 1) := by decide +kernel
theorem dX4_layRows_85 : decode cX4_layRows 85 = .ok (.istore_n 3, 1) := by decide +kernel
theorem dX4_layRows_86 : decode cX4_layRows 86 = .ok (.iinc 4 1, 3) := by decide +kernel
theorem dX4_layRows_89 : decode cX4_layRows 89 = .ok (.goto (-62), 3) := by decide +kernel
theorem dX4_layRows_92 : decode cX4_layRows 92 = .ok (.aload_n 0, 1) := by decide +kernel
theorem dX4_layRows_93 : decode cX4_layRows 93 = .ok (.getfield 18, 3) := by decide +kernel
theorem dX4_layRows_96 : decode cX4_layRows 96 = .ok (.iload_n 2, 1) := by decide +kernel
theorem dX4_layRows_97 : decode cX4_layRows 97 = .ok (.iload_n 3, 1) := by decide +kernel
theorem dX4_layRows_98 : decode cX4_layRows 98 = .ok (.ifCond .eq 17, 3) := by decide +kernel
theorem dX4_layRows_101 : decode cX4_layRows 101 = .ok (.aload_n 0, 1) := by decide +kernel
theorem dX4_layRows_102 : decode cX4_layRows 102 = .ok (.getfield 27, 3) := by decide +kernel
theorem dX4_layRows_105 : decode cX4_layRows 105 = .ok (.aload_n 0, 1) := by decide +kernel
theorem dX4_layRows_106 : decode cX4_layRows 106 = .ok (.getfield 9, 3) := by decide +kernel
theorem dX4_layRows_109 : decode cX4_layRows 109 = .ok (.invokevirtual 66, 3) := by decide +kernel
theorem dX4_layRows_112 : decode cX4_layRows 112 = .ok (.goto 4, 3) := by decide +kernel
theorem dX4_layRows_115 : decode cX4_layRows 115 = .ok (.iconst (-1), 1) := by decide +kernel
theorem dX4_layRows_116 : decode cX4_layRows 116 = .ok (.iastore, 1) := by decide +kernel
theorem dX4_layRows_117 : decode cX4_layRows 117 = .ok (.iinc 2 1, 3) := by decide +kernel
theorem dX4_layRows_120 : decode cX4_layRows 120 = .ok (.goto (-118), 3) := by decide +kernel
theorem dX4_layRows_123 : decode cX4_layRows 123 = .ok (.return_, 1) := by decide +kernel
theorem dX4_addDay_0 : decode cX4_addDay 0 = .ok (.iconst 0, 1) := by decide +kernel
theorem dX4_addDay_1 : decode cX4_addDay 1 = .ok (.istore_n 2, 1) := by decide +kernel
theorem dX4_addDay_2 : decode cX4_addDay 2 = .ok (.iload_n 2, 1) := by decide +kernel
theorem dX4_addDay_3 : decode cX4_addDay 3 = .ok (.iload_n 1, 1) := by decide +kernel
theorem dX4_addDay_4 : decode cX4_addDay 4 = .ok (.if_icmp .ge 53, 3) := by decide +kernel
theorem dX4_addDay_7 : decode cX4_addDay 7 = .ok (.aload_n 0, 1) := by decide +kernel
theorem dX4_addDay_8 : decode cX4_addDay 8 = .ok (.getfield 18, 3) := by decide +kernel
theorem dX4_addDay_11 : decode cX4_addDay 11 = .ok (.iload_n 2, 1) := by decide +kernel
theorem dX4_addDay_12 : decode cX4_addDay 12 = .ok (.iaload, 1) := by decide +kernel
theorem dX4_addDay_13 : decode cX4_addDay 13 = .ok (.iconst (-1), 1) := by decide +kernel
theorem dX4_addDay_14 : decode cX4_addDay 14 = .ok (.if_icmp .ne 7, 3) := by decide +kernel
theorem dX4_addDay_17 : decode cX4_addDay 17 = .ok (.iconst (-1), 1) := by decide +kernel
theorem dX4_addDay_18 : decode cX4_addDay 18 = .ok (.goto 9, 3) := by decide +kernel
theorem dX4_addDay_21 : decode cX4_addDay 21 = .ok (.aload_n 0, 1) := by decide +kernel
theorem dX4_addDay_22 : decode cX4_addDay 22 = .ok (.iload_n 1, 1) := by decide +kernel
theorem dX4_addDay_23 : decode cX4_addDay 23 = .ok (.iload_n 2, 1) := by decide +kernel
theorem dX4_addDay_24 : decode cX4_addDay 24 = .ok (.invokevirtual 70, 3) := by decide +kernel
theorem dX4_addDay_27 : decode cX4_addDay 27 = .ok (.istore_n 3, 1) := by decide +kernel
theorem dX4_addDay_28 : decode cX4_addDay 28 = .ok (.aload_n 0, 1) := by decide +kernel
theorem dX4_addDay_29 : decode cX4_addDay 29 = .ok (.getfield 24, 3) := by decide +kernel
theorem dX4_addDay_32 : decode cX4_addDay 32 = .ok (.iload_n 2, 1) := by decide +kernel
theorem dX4_addDay_33 : decode cX4_addDay 33 = .ok (.iload_n 3, 1) := by decide +kernel
theorem dX4_addDay_34 : decode cX4_addDay 34 = .ok (.iconst (-1), 1) := by decide +kernel
theorem dX4_addDay_35 : decode cX4_addDay 35 = .ok (.if_icmp .ne 7, 3) := by decide +kernel
theorem dX4_addDay_38 : decode cX4_addDay 38 = .ok (.iconst (-1), 1) := by decide +kernel
theorem dX4_addDay_39 : decode cX4_addDay 39 = .ok (.goto 11, 3) := by decide +kernel
theorem dX4_addDay_42 : decode cX4_addDay 42 = .ok (.iload_n 3, 1) := by decide +kernel
theorem dX4_addDay_43 : decode cX4_addDay 43 = .ok (.aload_n 0, 1) := by decide +kernel
theorem dX4_addDay_44 : decode cX4_addDay 44 = .ok (.getfield 18, 3) := by decide +kernel
theorem dX4_addDay_47 : decode cX4_addDay 47 = .ok (.iload_n 2, 1) := by decide +kernel
theorem dX4_addDay_48 : decode cX4_addDay 48 = .ok (.iaload, 1) := by decide +kernel
theorem dX4_addDay_49 : decode cX4_addDay 49 = .ok (.iadd, 1) := by decide +kernel
theorem dX4_addDay_50 : decode cX4_addDay 50 = .ok (.iastore, 1) := by decide +kernel
theorem dX4_addDay_51 : decode cX4_addDay 51 = .ok (.iinc 2 1, 3) := by decide +kernel
theorem dX4_addDay_54 : decode cX4_addDay 54 = .ok (.goto (-52), 3) := by decide +kernel
theorem dX4_addDay_57 : decode cX4_addDay 57 = .ok (.aload_n 0, 1) := by decide +kernel
theorem dX4_addDay_58 : decode cX4_addDay 58 = .ok (.getfield 21, 3) := by decide +kernel
theorem dX4_addDay_61 : decode cX4_addDay 61 = .ok (.astore_n 2, 1) := by decide +kernel
theorem dX4_addDay_62 : decode cX4_addDay 62 = .ok (.aload_n 0, 1) := by decide +kernel
theorem dX4_addDay_63 : decode cX4_addDay 63 = .ok (.aload_n 0, 1) := by decide +kernel
theorem dX4_addDay_64 : decode cX4_addDay 64 = .ok (.getfield 24, 3) := by decide +kernel
theorem dX4_addDay_67 : decode cX4_addDay 67 = .ok (.putfield 21, 3) := by decide +kernel
theorem dX4_addDay_70 : decode cX4_addDay 70 = .ok (.aload_n 0, 1) := by decide +kernel
theorem dX4_addDay_71 : decode cX4_addDay 71 = .ok (.aload_n 2, 1) := by decide +kernel
theorem dX4_addDay_72 : decode cX4_addDay 72 = .ok (.putfield 24, 3) := by decide +kernel
theorem dX4_addDay_75 : decode cX4_addDay 75 = .ok (.return_, 1) := by decide +kernel
theorem dX4_bestAhead_0 : decode cX4_bestAhead 0 = .ok (.iconst (-1), 1) := by decide +kernel
theorem dX4_bestAhead_1 : decode cX4_bestAhead 1 = .ok (.istore_n 3, 1) := by decide +kernel
theorem dX4_bestAhead_2 : decode cX4_bestAhead 2 = .ok (.iconst 0, 1) := by decide +kernel
theorem dX4_bestAhead_3 : decode cX4_bestAhead 3 = .ok (.istore 4, 2) := by decide +kernel
theorem dX4_bestAhead_5 : decode cX4_bestAhead 5 = .ok (.iload 4, 2) := by decide +kernel
theorem dX4_bestAhead_7 : decode cX4_bestAhead 7 = .ok (.iload_n 1, 1) := by decide +kernel
theorem dX4_bestAhead_8 : decode cX4_bestAhead 8 = .ok (.if_icmp .ge 44, 3) := by decide +kernel
theorem dX4_bestAhead_11 : decode cX4_bestAhead 11 = .ok (.aload_n 0, 1) := by decide +kernel
theorem dX4_bestAhead_12 : decode cX4_bestAhead 12 = .ok (.getfield 21, 3) := by decide +kernel
theorem dX4_bestAhead_15 : decode cX4_bestAhead 15 = .ok (.iload 4, 2) := by decide +kernel
theorem dX4_bestAhead_17 : decode cX4_bestAhead 17 = .ok (.iaload, 1) := by decide +kernel
theorem dX4_bestAhead_18 : decode cX4_bestAhead 18 = .ok (.iload_n 3, 1) := by decide +kernel
theorem dX4_bestAhead_19 : decode cX4_bestAhead 19 = .ok (.if_icmp .le 27, 3) := by decide +kernel
theorem dX4_bestAhead_22 : decode cX4_bestAhead 22 = .ok (.aload_n 0, 1) := by decide +kernel
theorem dX4_bestAhead_23 : decode cX4_bestAhead 23 = .ok (.aload_n 0, 1) := by decide +kernel
theorem dX4_bestAhead_24 : decode cX4_bestAhead 24 = .ok (.getfield 15, 3) := by decide +kernel
theorem dX4_bestAhead_27 : decode cX4_bestAhead 27 = .ok (.iload 4, 2) := by decide +kernel
theorem dX4_bestAhead_29 : decode cX4_bestAhead 29 = .ok (.iconst 5, 1) := by decide +kernel
theorem dX4_bestAhead_30 : decode cX4_bestAhead 30 = .ok (.imul, 1) := by decide +kernel
theorem dX4_bestAhead_31 : decode cX4_bestAhead 31 = .ok (.iload_n 2, 1) := by decide +kernel
theorem dX4_bestAhead_32 : decode cX4_bestAhead 32 = .ok (.invokevirtual 44, 3) := by decide +kernel
theorem dX4_bestAhead_35 : decode cX4_bestAhead 35 = .ok (.ifCond .eq 11, 3) := by decide +kernel
theorem dX4_bestAhead_38 : decode cX4_bestAhead 38 = .ok (.aload_n 0, 1) := by decide +kernel
theorem dX4_bestAhead_39 : decode cX4_bestAhead 39 = .ok (.getfield 21, 3) := by decide +kernel
theorem dX4_bestAhead_42 : decode cX4_bestAhead 42 = .ok (.iload 4, 2) := by decide +kernel
theorem dX4_bestAhead_44 : decode cX4_bestAhead 44 = .ok (.iaload, 1) := by decide +kernel
theorem dX4_bestAhead_45 : decode cX4_bestAhead 45 = .ok (.istore_n 3, 1) := by decide +kernel
theorem dX4_bestAhead_46 : decode cX4_bestAhead 46 = .ok (.iinc 4 1, 3) := by decide +kernel
theorem dX4_bestAhead_49 : decode cX4_bestAhead 49 = .ok (.goto (-44), 3) := by decide +kernel
theorem dX4_bestAhead_52 : decode cX4_bestAhead 52 = .ok (.iload_n 3, 1) := by decide +kernel
theorem dX4_bestAhead_53 : decode cX4_bestAhead 53 = .ok (.ireturn, 1) := by decide +kernel
theorem dX4_mayComeBehind_0 : decode cX4_mayComeBehind 0 = .ok (.iconst 0, 1) := by decide +kernel
theorem dX4_mayComeBehind_1 : decode cX4_mayComeBehind 1 = .ok (.istore 4, 2) := by decide +kernel
theorem dX4_mayComeBehind_3 : decode cX4_mayComeBehind 3 = .ok (.iload 4, 2) := by decide +kernel
theorem dX4_mayComeBehind_5 : decode cX4_mayComeBehind 5 = .ok (.aload_n 0, 1) := by decide +kernel
theorem dX4_mayComeBehind_6 : decode cX4_mayComeBehind 6 = .ok (.getfield 27, 3) := by decide +kernel
theorem dX4_mayComeBehind_9 : decode cX4_mayComeBehind 9 = .ok (.getfield 31, 3) := by decide +kernel
theorem dX4_mayComeBehind_12 : decode cX4_mayComeBehind 12 = .ok (.if_icmp .ge 38, 3) := by decide +kernel
theorem dX4_mayComeBehind_15 : decode cX4_mayComeBehind 15 = .ok (.aload_n 0, 1) := by decide +kernel
theorem dX4_mayComeBehind_16 : decode cX4_mayComeBehind 16 = .ok (.getfield 27, 3) := by decide +kernel
theorem dX4_mayComeBehind_19 : decode cX4_mayComeBehind 19 = .ok (.aload_n 0, 1) := by decide +kernel
theorem dX4_mayComeBehind_20 : decode cX4_mayComeBehind 20 = .ok (.getfield 15, 3) := by decide +kernel
theorem dX4_mayComeBehind_23 : decode cX4_mayComeBehind 23 = .ok (.iload_n 3, 1) := by decide +kernel
theorem dX4_mayComeBehind_24 : decode cX4_mayComeBehind 24 = .ok (.iconst 5, 1) := by decide +kernel
theorem dX4_mayComeBehind_25 : decode cX4_mayComeBehind 25 = .ok (.imul, 1) := by decide +kernel
theorem dX4_mayComeBehind_26 : decode cX4_mayComeBehind 26 = .ok (.iload 4, 2) := by decide +kernel
theorem dX4_mayComeBehind_28 : decode cX4_mayComeBehind 28 = .ok (.iadd, 1) := by decide +kernel
theorem dX4_mayComeBehind_29 : decode cX4_mayComeBehind 29 = .ok (.iaload, 1) := by decide +kernel
theorem dX4_mayComeBehind_30 : decode cX4_mayComeBehind 30 = .ok (.aload_n 1, 1) := by decide +kernel
theorem dX4_mayComeBehind_31 : decode cX4_mayComeBehind 31 = .ok (.iload_n 2, 1) := by decide +kernel
theorem dX4_mayComeBehind_32 : decode cX4_mayComeBehind 32 = .ok (.iload 4, 2) := by decide +kernel
theorem dX4_mayComeBehind_34 : decode cX4_mayComeBehind 34 = .ok (.iadd, 1) := by decide +kernel
theorem dX4_mayComeBehind_35 : decode cX4_mayComeBehind 35 = .ok (.iaload, 1) := by decide +kernel
theorem dX4_mayComeBehind_36 : decode cX4_mayComeBehind 36 = .ok (.invokevirtual 73, 3) := by decide +kernel
theorem dX4_mayComeBehind_39 : decode cX4_mayComeBehind 39 = .ok (.ifCond .ne 5, 3) := by decide +kernel
theorem dX4_mayComeBehind_42 : decode cX4_mayComeBehind 42 = .ok (.iconst 0, 1) := by decide +kernel
theorem dX4_mayComeBehind_43 : decode cX4_mayComeBehind 43 = .ok (.ireturn, 1) := by decide +kernel
theorem dX4_mayComeBehind_44 : decode cX4_mayComeBehind 44 = .ok (.iinc 4 1, 3) := by decide +kernel
theorem dX4_mayComeBehind_47 : decode cX4_mayComeBehind 47 = .ok (.goto (-44), 3) := by decide +kernel
theorem dX4_mayComeBehind_50 : decode cX4_mayComeBehind 50 = .ok (.iconst 1, 1) := by decide +kernel
theorem dX4_mayComeBehind_51 : decode cX4_mayComeBehind 51 = .ok (.ireturn, 1) := by decide +kernel
theorem dX5_init_0 : decode cX5_init 0 = .ok (.aload_n 0, 1) := by decide +kernel
theorem dX5_init_1 : decode cX5_init 1 = .ok (.invokespecial 3, 3) := by decide +kernel
theorem dX5_init_4 : decode cX5_init 4 = .ok (.aload_n 0, 1) := by decide +kernel
theorem dX5_init_5 : decode cX5_init 5 = .ok (.bipush 7, 2) := by decide +kernel
theorem dX5_init_7 : decode cX5_init 7 = .ok (.newarray .int, 2) := by decide +kernel
theorem dX5_init_9 : decode cX5_init 9 = .ok (.putfield 9, 3) := by decide +kernel
theorem dX5_init_12 : decode cX5_init 12 = .ok (.aload_n 0, 1) := by decide +kernel
theorem dX5_init_13 : decode cX5_init 13 = .ok (.sipush 210, 3) := by decide +kernel
theorem dX5_init_16 : decode cX5_init 16 = .ok (.newarray .int, 2) := by decide +kernel
theorem dX5_init_18 : decode cX5_init 18 = .ok (.putfield 15, 3) := by decide +kernel
theorem dX5_init_21 : decode cX5_init 21 = .ok (.aload_n 0, 1) := by decide +kernel
theorem dX5_init_22 : decode cX5_init 22 = .ok (.aload_n 1, 1) := by decide +kernel
theorem dX5_init_23 : decode cX5_init 23 = .ok (.putfield 18, 3) := by decide +kernel
theorem dX5_init_26 : decode cX5_init 26 = .ok (.return_, 1) := by decide +kernel
theorem dX5_look_0 : decode cX5_look 0 = .ok (.iconst 0, 1) := by decide +kernel
theorem dX5_look_1 : decode cX5_look 1 = .ok (.istore_n 2, 1) := by decide +kernel
theorem dX5_look_2 : decode cX5_look 2 = .ok (.iload_n 2, 1) := by decide +kernel
theorem dX5_look_3 : decode cX5_look 3 = .ok (.aload_n 0, 1) := by decide +kernel
theorem dX5_look_4 : decode cX5_look 4 = .ok (.getfield 18, 3) := by decide +kernel
theorem dX5_look_7 : decode cX5_look 7 = .ok (.getfield 22, 3) := by decide +kernel
theorem dX5_look_10 : decode cX5_look 10 = .ok (.if_icmp .ge 74, 3) := by decide +kernel
theorem dX5_look_13 : decode cX5_look 13 = .ok (.iconst 0, 1) := by decide +kernel
theorem dX5_look_14 : decode cX5_look 14 = .ok (.istore_n 3, 1) := by decide +kernel
theorem dX5_look_15 : decode cX5_look 15 = .ok (.iconst 0, 1) := by decide +kernel
theorem dX5_look_16 : decode cX5_look 16 = .ok (.istore 4, 2) := by decide +kernel
theorem dX5_look_18 : decode cX5_look 18 = .ok (.iload 4, 2) := by decide +kernel
theorem dX5_look_20 : decode cX5_look 20 = .ok (.aload_n 0, 1) := by decide +kernel
theorem dX5_look_21 : decode cX5_look 21 = .ok (.getfield 18, 3) := by decide +kernel
theorem dX5_look_24 : decode cX5_look 24 = .ok (.getfield 22, 3) := by decide +kernel
theorem dX5_look_27 : decode cX5_look 27 = .ok (.if_icmp .ge 44, 3) := by decide +kernel
theorem dX5_look_30 : decode cX5_look 30 = .ok (.aload_n 0, 1) := by decide +kernel
theorem dX5_look_31 : decode cX5_look 31 = .ok (.getfield 18, 3) := by decide +kernel
theorem dX5_look_34 : decode cX5_look 34 = .ok (.iload_n 2, 1) := by decide +kernel
theorem dX5_look_35 : decode cX5_look 35 = .ok (.iload 4, 2) := by decide +kernel
theorem dX5_look_37 : decode cX5_look 37 = .ok (.invokevirtual 28, 3) := by decide +kernel
theorem dX5_look_40 : decode cX5_look 40 = .ok (.ifCond .le 25, 3) := by decide +kernel
theorem dX5_look_43 : decode cX5_look 43 = .ok (.aload_n 0, 1) := by decide +kernel
theorem dX5_look_44 : decode cX5_look 44 = .ok (.getfield 18, 3) := by decide +kernel
theorem dX5_look_47 : decode cX5_look 47 = .ok (.iload 4, 2) := by decide +kernel
theorem dX5_look_49 : decode cX5_look 49 = .ok (.aload_n 1, 1) := by decide +kernel
theorem dX5_look_50 : decode cX5_look 50 = .ok (.iload_n 2, 1) := by decide +kernel
theorem dX5_look_51 : decode cX5_look 51 = .ok (.iaload, 1) := by decide +kernel
theorem dX5_look_52 : decode cX5_look 52 = .ok (.invokevirtual 32, 3) := by decide +kernel
theorem dX5_look_55 : decode cX5_look 55 = .ok (.ifCond .eq 10, 3) := by decide +kernel
theorem dX5_look_58 : decode cX5_look 58 = .ok (.iload_n 3, 1) := by decide +kernel
theorem dX5_look_59 : decode cX5_look 59 = .ok (.iconst 1, 1) := by decide +kernel
theorem dX5_look_60 : decode cX5_look 60 = .ok (.iload 4, 2) := by decide +kernel
theorem dX5_look_62 : decode cX5_look 62 = .ok (.ishl, 1) := by decide +kernel
theorem dX5_look_63 : decode cX5_look 63 = .ok (.ior, 1) := by decide +kernel
theorem dX5_look_64 : decode cX5_look 64 = .ok (.istore_n 3, 1) := by decide +kernel
theorem dX5_look_65 : decode cX5_look 65 = .ok (.iinc 4 1, 3) := by decide +kernel
theorem dX5_look_68 : decode cX5_look 68 = .ok (.goto (-50), 3) := by decide +kernel
theorem dX5_look_71 : decode cX5_look 71 = .ok (.aload_n 0, 1) := by decide +kernel
theorem dX5_look_72 : decode cX5_look 72 = .ok (.getfield 9, 3) := by decide +kernel
theorem dX5_look_75 : decode cX5_look 75 = .ok (.iload_n 2, 1) := by decide +kernel
theorem dX5_look_76 : decode cX5_look 76 = .ok (.iload_n 3, 1) := by decide +kernel
theorem dX5_look_77 : decode cX5_look 77 = .ok (.iastore, 1) := by decide +kernel
theorem dX5_look_78 : decode cX5_look 78 = .ok (.iinc 2 1, 3) := by decide +kernel
theorem dX5_look_81 : decode cX5_look 81 = .ok (.goto (-79), 3) := by decide +kernel
theorem dX5_look_84 : decode cX5_look 84 = .ok (.return_, 1) := by decide +kernel
theorem dX5_mayDo_0 : decode cX5_mayDo 0 = .ok (.aload_n 0, 1) := by decide +kernel
theorem dX5_mayDo_1 : decode cX5_mayDo 1 = .ok (.getfield 9, 3) := by decide +kernel
theorem dX5_mayDo_4 : decode cX5_mayDo 4 = .ok (.iload_n 1, 1) := by decide +kernel
theorem dX5_mayDo_5 : decode cX5_mayDo 5 = .ok (.iaload, 1) := by decide +kernel
theorem dX5_mayDo_6 : decode cX5_mayDo 6 = .ok (.iload_n 2, 1) := by decide +kernel
theorem dX5_mayDo_7 : decode cX5_mayDo 7 = .ok (.ishr, 1) := by decide +kernel
theorem dX5_mayDo_8 : decode cX5_mayDo 8 = .ok (.iconst 1, 1) := by decide +kernel
theorem dX5_mayDo_9 : decode cX5_mayDo 9 = .ok (.iand, 1) := by decide +kernel
theorem dX5_mayDo_10 : decode cX5_mayDo 10 = .ok (.iconst 1, 1) := by decide +kernel
theorem dX5_mayDo_11 : decode cX5_mayDo 11 = .ok (.if_icmp .ne 7, 3) := by decide +kernel
theorem dX5_mayDo_14 : decode cX5_mayDo 14 = .ok (.iconst 1, 1) := by decide +kernel
theorem dX5_mayDo_15 : decode cX5_mayDo 15 = .ok (.goto 4, 3) := by decide +kernel
theorem dX5_mayDo_18 : decode cX5_mayDo 18 = .ok (.iconst 0, 1) := by decide +kernel
theorem dX5_mayDo_19 : decode cX5_mayDo 19 = .ok (.ireturn, 1) := by decide +kernel
theorem dX5_allMayDo_0 : decode cX5_allMayDo 0 = .ok (.iconst 0, 1) := by decide +kernel
theorem dX5_allMayDo_1 : decode cX5_allMayDo 1 = .ok (.istore_n 2, 1) := by decide +kernel
theorem dX5_allMayDo_2 : decode cX5_allMayDo 2 = .ok (.iload_n 2, 1) := by decide +kernel
theorem dX5_allMayDo_3 : decode cX5_allMayDo 3 = .ok (.aload_n 0, 1) := by decide +kernel
theorem dX5_allMayDo_4 : decode cX5_allMayDo 4 = .ok (.getfield 18, 3) := by decide +kernel
theorem dX5_allMayDo_7 : decode cX5_allMayDo 7 = .ok (.getfield 22, 3) := by decide +kernel
theorem dX5_allMayDo_10 : decode cX5_allMayDo 10 = .ok (.if_icmp .ge 22, 3) := by decide +kernel
theorem dX5_allMayDo_13 : decode cX5_allMayDo 13 = .ok (.aload_n 0, 1) := by decide +kernel
theorem dX5_allMayDo_14 : decode cX5_allMayDo 14 = .ok (.iload_n 2, 1) := by decide +kernel
theorem dX5_allMayDo_15 : decode cX5_allMayDo 15 = .ok (.aload_n 1, 1) := by decide +kernel
theorem dX5_allMayDo_16 : decode cX5_allMayDo 16 = .ok (.iload_n 2, 1) := by decide +kernel
theorem dX5_allMayDo_17 : decode cX5_allMayDo 17 = .ok (.iaload, 1) := by decide +kernel
theorem dX5_allMayDo_18 : decode cX5_allMayDo 18 = .ok (.invokevirtual 36, 3) := by decide +kernel
theorem dX5_allMayDo_21 : decode cX5_allMayDo 21 = .ok (.ifCond .ne 5, 3) := by decide +kernel
theorem dX5_allMayDo_24 : decode cX5_allMayDo 24 = .ok (.iconst 0, 1) := by decide +kernel
theorem dX5_allMayDo_25 : decode cX5_allMayDo 25 = .ok (.ireturn, 1) := by decide +kernel
theorem dX5_allMayDo_26 : decode cX5_allMayDo 26 = .ok (.iinc 2 1, 3) := by decide +kernel
theorem dX5_allMayDo_29 : decode cX5_allMayDo 29 = .ok (.goto (-27), 3) := by decide +kernel
theorem dX5_allMayDo_32 : decode cX5_allMayDo 32 = .ok (.iconst 1, 1) := by decide +kernel
theorem dX5_allMayDo_33 : decode cX5_allMayDo 33 = .ok (.ireturn, 1) := by decide +kernel
theorem dX5_wants_0 : decode cX5_wants 0 = .ok (.aload_n 0, 1) := by decide +kernel
theorem dX5_wants_1 : decode cX5_wants 1 = .ok (.iload_n 2, 1) := by decide +kernel
theorem dX5_wants_2 : decode cX5_wants 2 = .ok (.aload_n 1, 1) := by decide +kernel
theorem dX5_wants_3 : decode cX5_wants 3 = .ok (.iload_n 3, 1) := by decide +kernel
theorem dX5_wants_4 : decode cX5_wants 4 = .ok (.iaload, 1) := by decide +kernel
theorem dX5_wants_5 : decode cX5_wants 5 = .ok (.invokevirtual 36, 3) := by decide +kernel
theorem dX5_wants_8 : decode cX5_wants 8 = .ok (.ifCond .eq 32, 3) := by decide +kernel
theorem dX5_wants_11 : decode cX5_wants 11 = .ok (.aload_n 0, 1) := by decide +kernel
theorem dX5_wants_12 : decode cX5_wants 12 = .ok (.getfield 18, 3) := by decide +kernel
theorem dX5_wants_15 : decode cX5_wants 15 = .ok (.iload_n 2, 1) := by decide +kernel
theorem dX5_wants_16 : decode cX5_wants 16 = .ok (.aload_n 1, 1) := by decide +kernel
theorem dX5_wants_17 : decode cX5_wants 17 = .ok (.iload_n 3, 1) := by decide +kernel
theorem dX5_wants_18 : decode cX5_wants 18 = .ok (.iaload, 1) := by decide +kernel
theorem dX5_wants_19 : decode cX5_wants 19 = .ok (.invokevirtual 39, 3) := by decide +kernel
theorem dX5_wants_22 : decode cX5_wants 22 = .ok (.aload_n 0, 1) := by decide +kernel
theorem dX5_wants_23 : decode cX5_wants 23 = .ok (.getfield 18, 3) := by decide +kernel
theorem dX5_wants_26 : decode cX5_wants 26 = .ok (.iload_n 2, 1) := by decide +kernel
theorem dX5_wants_27 : decode cX5_wants 27 = .ok (.aload_n 1, 1) := by decide +kernel
theorem dX5_wants_28 : decode cX5_wants 28 = .ok (.iload_n 2, 1) := by decide +kernel
theorem dX5_wants_29 : decode cX5_wants 29 = .ok (.iaload, 1) := by decide +kernel
theorem dX5_wants_30 : decode cX5_wants 30 = .ok (.invokevirtual 39, 3) := by decide +kernel
theorem dX5_wants_33 : decode cX5_wants 33 = .ok (.if_icmp .le 7, 3) := by decide +kernel
theorem dX5_wants_36 : decode cX5_wants 36 = .ok (.iconst 1, 1) := by decide +kernel
theorem dX5_wants_37 : decode cX5_wants 37 = .ok (.goto 4, 3) := by decide +kernel
theorem dX5_wants_40 : decode cX5_wants 40 = .ok (.iconst 0, 1) := by decide +kernel
theorem dX5_wants_41 : decode cX5_wants 41 = .ok (.ireturn, 1) := by decide +kernel
theorem dX5_isWanted_0 : decode cX5_isWanted 0 = .ok (.iload 4, 2) := by decide +kernel
theorem dX5_isWanted_2 : decode cX5_isWanted 2 = .ok (.iconst (-1), 1) := by decide +kernel
theorem dX5_isWanted_3 : decode cX5_isWanted 3 = .ok (.if_icmp .ne 29, 3) := by decide +kernel
theorem dX5_isWanted_6 : decode cX5_isWanted 6 = .ok (.aload_n 0, 1) := by decide +kernel
theorem dX5_isWanted_7 : decode cX5_isWanted 7 = .ok (.aload_n 1, 1) := by decide +kernel
theorem dX5_isWanted_8 : decode cX5_isWanted 8 = .ok (.iload_n 2, 1) := by decide +kernel
theorem dX5_isWanted_9 : decode cX5_isWanted 9 = .ok (.iload_n 3, 1) := by decide +kernel
theorem dX5_isWanted_10 : decode cX5_isWanted 10 = .ok (.invokevirtual 42, 3) := by decide +kernel
theorem dX5_isWanted_13 : decode cX5_isWanted 13 = .ok (.ifCond .eq 17, 3) := by decide +kernel
theorem dX5_isWanted_16 : decode cX5_isWanted 16 = .ok (.aload_n 0, 1) := by decide +kernel
theorem dX5_isWanted_17 : decode cX5_isWanted 17 = .ok (.aload_n 1, 1) := by decide +kernel
theorem dX5_isWanted_18 : decode cX5_isWanted 18 = .ok (.iload_n 3, 1) := by decide +kernel
theorem dX5_isWanted_19 : decode cX5_isWanted 19 = .ok (.iload_n 2, 1) := by decide +kernel
theorem dX5_isWanted_20 : decode cX5_isWanted 20 = .ok (.invokevirtual 42, 3) := by decide +kernel
theorem dX5_isWanted_23 : decode cX5_isWanted 23 = .ok (.ifCond .eq 7, 3) := by decide +kernel
theorem dX5_isWanted_26 : decode cX5_isWanted 26 = .ok (.iconst 1, 1) := by decide +kernel
theorem dX5_isWanted_27 : decode cX5_isWanted 27 = .ok (.goto 4, 3) := by decide +kernel
theorem dX5_isWanted_30 : decode cX5_isWanted 30 = .ok (.iconst 0, 1) := by decide +kernel
theorem dX5_isWanted_31 : decode cX5_isWanted 31 = .ok (.ireturn, 1) := by decide +kernel
theorem dX5_isWanted_32 : decode cX5_isWanted 32 = .ok (.aload_n 0, 1) := by decide +kernel
theorem dX5_isWanted_33 : decode cX5_isWanted 33 = .ok (.aload_n 1, 1) := by decide +kernel
theorem dX5_isWanted_34 : decode cX5_isWanted 34 = .ok (.iload_n 2, 1) := by decide +kernel
theorem dX5_isWanted_35 : decode cX5_isWanted 35 = .ok (.iload_n 3, 1) := by decide +kernel
theorem dX5_isWanted_36 : decode cX5_isWanted 36 = .ok (.invokevirtual 42, 3) := by decide +kernel
theorem dX5_isWanted_39 : decode cX5_isWanted 39 = .ok (.ifCond .eq 29, 3) := by decide +kernel
theorem dX5_isWanted_42 : decode cX5_isWanted 42 = .ok (.aload_n 0, 1) := by decide +kernel
theorem dX5_isWanted_43 : decode cX5_isWanted 43 = .ok (.aload_n 1, 1) := by decide +kernel
theorem dX5_isWanted_44 : decode cX5_isWanted 44 = .ok (.iload_n 3, 1) := by decide +kernel
theorem dX5_isWanted_45 : decode cX5_isWanted 45 = .ok (.iload 4, 2) := by decide +kernel
theorem dX5_isWanted_47 : decode cX5_isWanted 47 = .ok (.invokevirtual 42, 3) := by decide +kernel
theorem dX5_isWanted_50 : decode cX5_isWanted 50 = .ok (.ifCond .eq 18, 3) := by decide +kernel
theorem dX5_isWanted_53 : decode cX5_isWanted 53 = .ok (.aload_n 0, 1) := by decide +kernel
theorem dX5_isWanted_54 : decode cX5_isWanted 54 = .ok (.aload_n 1, 1) := by decide +kernel
theorem dX5_isWanted_55 : decode cX5_isWanted 55 = .ok (.iload 4, 2) := by decide +kernel
theorem dX5_isWanted_57 : decode cX5_isWanted 57 = .ok (.iload_n 2, 1) := by decide +kernel
theorem dX5_isWanted_58 : decode cX5_isWanted 58 = .ok (.invokevirtual 42, 3) := by decide +kernel
theorem dX5_isWanted_61 : decode cX5_isWanted 61 = .ok (.ifCond .eq 7, 3) := by decide +kernel
theorem dX5_isWanted_64 : decode cX5_isWanted 64 = .ok (.iconst 1, 1) := by decide +kernel
theorem dX5_isWanted_65 : decode cX5_isWanted 65 = .ok (.goto 4, 3) := by decide +kernel
theorem dX5_isWanted_68 : decode cX5_isWanted 68 = .ok (.iconst 0, 1) := by decide +kernel
theorem dX5_isWanted_69 : decode cX5_isWanted 69 = .ok (.ireturn, 1) := by decide +kernel
theorem dX5_pass_0 : decode cX5_pass 0 = .ok (.aload_n 0, 1) := by decide +kernel
theorem dX5_pass_1 : decode cX5_pass 1 = .ok (.iload_n 1, 1) := by decide +kernel
theorem dX5_pass_2 : decode cX5_pass 2 = .ok (.iaload, 1) := by decide +kernel
theorem dX5_pass_3 : decode cX5_pass 3 = .ok (.istore 4, 2) := by decide +kernel
theorem dX5_pass_5 : decode cX5_pass 5 = .ok (.aload_n 0, 1) := by decide +kernel
theorem dX5_pass_6 : decode cX5_pass 6 = .ok (.iload_n 1, 1) := by decide +kernel
theorem dX5_pass_7 : decode cX5_pass 7 = .ok (.aload_n 0, 1) := by decide +kernel
theorem dX5_pass_8 : decode cX5_pass 8 = .ok (.iload_n 2, 1) := by decide +kernel
theorem dX5_pass_9 : decode cX5_pass 9 = .ok (.iaload, 1) := by decide +kernel
theorem dX5_pass_10 : decode cX5_pass 10 = .ok (.iastore, 1) := by decide +kernel
theorem dX5_pass_11 : decode cX5_pass 11 = .ok (.iload_n 3, 1) := by decide +kernel
theorem dX5_pass_12 : decode cX5_pass 12 = .ok (.iconst (-1), 1) := by decide +kernel
theorem dX5_pass_13 : decode cX5_pass 13 = .ok (.if_icmp .ne 11, 3) := by decide +kernel
theorem dX5_pass_16 : decode cX5_pass 16 = .ok (.aload_n 0, 1) := by decide +kernel
theorem dX5_pass_17 : decode cX5_pass 17 = .ok (.iload_n 2, 1) := by decide +kernel
theorem dX5_pass_18 : decode cX5_pass 18 = .ok (.iload 4, 2) := by decide +kernel
theorem dX5_pass_20 : decode cX5_pass 20 = .ok (.iastore, 1) := by decide +kernel
theorem dX5_pass_21 : decode cX5_pass 21 = .ok (.goto 14, 3) := by decide +kernel
theorem dX5_pass_24 : decode cX5_pass 24 = .ok (.aload_n 0, 1) := by decide +kernel
theorem dX5_pass_25 : decode cX5_pass 25 = .ok (.iload_n 2, 1) := by decide +kernel
theorem dX5_pass_26 : decode cX5_pass 26 = .ok (.aload_n 0, 1) := by decide +kernel
theorem dX5_pass_27 : decode cX5_pass 27 = .ok (.iload_n 3, 1) := by decide +kernel
theorem dX5_pass_28 : decode cX5_pass 28 = .ok (.iaload, 1) := by decide +kernel
theorem dX5_pass_29 : decode cX5_pass 29 = .ok (.iastore, 1) := by decide +kernel
theorem dX5_pass_30 : decode cX5_pass 30 = .ok (.aload_n 0, 1) := by decide +kernel
theorem dX5_pass_31 : decode cX5_pass 31 = .ok (.iload_n 3, 1) := by decide +kernel
theorem dX5_pass_32 : decode cX5_pass 32 = .ok (.iload 4, 2) := by decide +kernel
theorem dX5_pass_34 : decode cX5_pass 34 = .ok (.iastore, 1) := by decide +kernel
theorem dX5_pass_35 : decode cX5_pass 35 = .ok (.return_, 1) := by decide +kernel
theorem dX5_find_0 : decode cX5_find 0 = .ok (.aload_n 0, 1) := by decide +kernel
theorem dX5_find_1 : decode cX5_find 1 = .ok (.iconst 0, 1) := by decide +kernel
theorem dX5_find_2 : decode cX5_find 2 = .ok (.putfield 46, 3) := by decide +kernel
theorem dX5_find_5 : decode cX5_find 5 = .ok (.iload_n 2, 1) := by decide +kernel
theorem dX5_find_6 : decode cX5_find 6 = .ok (.ifCond .ne 4, 3) := by decide +kernel
theorem dX5_find_9 : decode cX5_find 9 = .ok (.return_, 1) := by decide +kernel
theorem dX5_find_10 : decode cX5_find 10 = .ok (.iconst 0, 1) := by decide +kernel
theorem dX5_find_11 : decode cX5_find 11 = .ok (.istore 4, 2) := by decide +kernel
theorem dX5_find_13 : decode cX5_find 13 = .ok (.iload 4, 2) := by decide +kernel
theorem dX5_find_15 : decode cX5_find 15 = .ok (.aload_n 0, 1) := by decide +kernel
theorem dX5_find_16 : decode cX5_find 16 = .ok (.getfield 18, 3) := by decide +kernel
theorem dX5_find_19 : decode cX5_find 19 = .ok (.getfield 22, 3) := by decide +kernel
theorem dX5_find_22 : decode cX5_find 22 = .ok (.if_icmp .ge 64, 3) := by decide +kernel
theorem dX5_find_25 : decode cX5_find 25 = .ok (.iload 4, 2) := by decide +kernel
theorem dX5_find_27 : decode cX5_find 27 = .ok (.iconst 1, 1) := by decide +kernel
theorem dX5_find_28 : decode cX5_find 28 = .ok (.iadd, 1) := by decide +kernel
theorem dX5_find_29 : decode cX5_find 29 = .ok (.istore 5, 2) := by decide +kernel
theorem dX5_find_31 : decode cX5_find 31 = .ok (.iload 5, 2) := by decide +kernel
theorem dX5_find_33 : decode cX5_find 33 = .ok (.aload_n 0, 1) := by decide +kernel
theorem dX5_find_34 : decode cX5_find 34 = .ok (.getfield 18, 3) := by decide +kernel
theorem dX5_find_37 : decode cX5_find 37 = .ok (.getfield 22, 3) := by decide +kernel
theorem dX5_find_40 : decode cX5_find 40 = .ok (.if_icmp .ge 40, 3) := by decide +kernel
theorem dX5_find_43 : decode cX5_find 43 = .ok (.aload_n 0, 1) := by decide +kernel
theorem dX5_find_44 : decode cX5_find 44 = .ok (.getfield 46, 3) := by decide +kernel
theorem dX5_find_47 : decode cX5_find 47 = .ok (.iload_n 3, 1) := by decide +kernel
theorem dX5_find_48 : decode cX5_find 48 = .ok (.if_icmp .ge 26, 3) := by decide +kernel
theorem dX5_find_51 : decode cX5_find 51 = .ok (.aload_n 0, 1) := by decide +kernel
theorem dX5_find_52 : decode cX5_find 52 = .ok (.aload_n 1, 1) := by decide +kernel
theorem dX5_find_53 : decode cX5_find 53 = .ok (.iload 4, 2) := by decide +kernel
theorem dX5_find_55 : decode cX5_find 55 = .ok (.iload 5, 2) := by decide +kernel
theorem dX5_find_57 : decode cX5_find 57 = .ok (.invokevirtual 42, 3) := by decide +kernel
theorem dX5_find_60 : decode cX5_find 60 = .ok (.ifCond .eq 14, 3) := by decide +kernel
theorem dX5_find_63 : decode cX5_find 63 = .ok (.aload_n 0, 1) := by decide +kernel
theorem dX5_find_64 : decode cX5_find 64 = .ok (.aload_n 1, 1) := by decide +kernel
theorem dX5_find_65 : decode cX5_find 65 = .ok (.iload_n 2, 1) := by decide +kernel
theorem dX5_find_66 : decode cX5_find 66 = .ok (.iload 4, 2) := by decide +kernel
theorem dX5_find_68 : decode cX5_find 68 = .ok (.iload 5, 2) := by decide +kernel
theorem dX5_find_70 : decode cX5_find 70 = .ok (.iload_n 3, 1) := by decide +kernel
theorem dX5_find_71 : decode cX5_find 71 = .ok (.invokevirtual 49, 3) := by decide +kernel
theorem dX5_find_74 : decode cX5_find 74 = .ok (.iinc 5 1, 3) := by decide +kernel
theorem dX5_find_77 : decode cX5_find 77 = .ok (.goto (-46), 3) := by decide +kernel
theorem dX5_find_80 : decode cX5_find 80 = .ok (.iinc 4 1, 3) := by decide +kernel
theorem dX5_find_83 : decode cX5_find 83 = .ok (.goto (-70), 3) := by decide +kernel
theorem dX5_find_86 : decode cX5_find 86 = .ok (.return_, 1) := by decide +kernel
theorem dX5_findThird_0 : decode cX5_findThird 0 = .ok (.iload_n 2, 1) := by decide +kernel
theorem dX5_findThird_1 : decode cX5_findThird 1 = .ok (.iconst 2, 1) := by decide +kernel
theorem dX5_findThird_2 : decode cX5_findThird 2 = .ok (.if_icmp .ne 23, 3) := by decide +kernel
theorem dX5_findThird_5 : decode cX5_findThird 5 = .ok (.aload_n 0, 1) := by decide +kernel
theorem dX5_findThird_6 : decode cX5_findThird 6 = .ok (.aload_n 1, 1) := by decide +kernel
theorem dX5_findThird_7 : decode cX5_findThird 7 = .ok (.iload 4, 2) := by decide +kernel
theorem dX5_findThird_9 : decode cX5_findThird 9 = .ok (.iload_n 3, 1) := by decide +kernel
theorem dX5_findThird_10 : decode cX5_findThird 10 = .ok (.invokevirtual 42, 3) := by decide +kernel
theorem dX5_findThird_13 : decode cX5_findThird 13 = .ok (.ifCond .eq 11, 3) := by decide +kernel
theorem dX5_findThird_16 : decode cX5_findThird 16 = .ok (.aload_n 0, 1) := by decide +kernel
theorem dX5_findThird_17 : decode cX5_findThird 17 = .ok (.iload_n 3, 1) := by decide +kernel
theorem dX5_findThird_18 : decode cX5_findThird 18 = .ok (.iload 4, 2) := by decide +kernel
theorem dX5_findThird_20 : decode cX5_findThird 20 = .ok (.iconst (-1), 1) := by decide +kernel
theorem dX5_findThird_21 : decode cX5_findThird 21 = .ok (.invokevirtual 53, 3) := by decide +kernel
theorem dX5_findThird_24 : decode cX5_findThird 24 = .ok (.return_, 1) := by decide +kernel
theorem dX5_findThird_25 : decode cX5_findThird 25 = .ok (.iload_n 3, 1) := by decide +kernel
theorem dX5_findThird_26 : decode cX5_findThird 26 = .ok (.iconst 1, 1) := by decide +kernel
theorem dX5_findThird_27 : decode cX5_findThird 27 = .ok (.iadd, 1) := by decide +kernel
theorem dX5_findThird_28 : decode cX5_findThird 28 = .ok (.istore 6, 2) := by decide +kernel
theorem dX5_findThird_30 : decode cX5_findThird 30 = .ok (.iload 6, 2) := by decide +kernel
theorem dX5_findThird_32 : decode cX5_findThird 32 = .ok (.aload_n 0, 1) := by decide +kernel
theorem dX5_findThird_33 : decode cX5_findThird 33 = .ok (.getfield 18, 3) := by decide +kernel
theorem dX5_findThird_36 : decode cX5_findThird 36 = .ok (.getfield 22, 3) := by decide +kernel
theorem dX5_findThird_39 : decode cX5_findThird 39 = .ok (.if_icmp .ge 57, 3) := by decide +kernel
theorem dX5_findThird_42 : decode cX5_findThird 42 = .ok (.aload_n 0, 1) := by decide +kernel
theorem dX5_findThird_43 : decode cX5_findThird 43 = .ok (.getfield 46, 3) := by decide +kernel
theorem dX5_findThird_46 : decode cX5_findThird 46 = .ok (.iload 5, 2) := by decide +kernel
theorem dX5_findThird_48 : decode cX5_findThird 48 = .ok (.if_icmp .ge 48, 3) := by decide +kernel
theorem dX5_findThird_51 : decode cX5_findThird 51 = .ok (.iload 6, 2) := by decide +kernel
theorem dX5_findThird_53 : decode cX5_findThird 53 = .ok (.iload 4, 2) := by decide +kernel
theorem dX5_findThird_55 : decode cX5_findThird 55 = .ok (.if_icmp .eq 35, 3) := by decide +kernel
theorem dX5_findThird_58 : decode cX5_findThird 58 = .ok (.aload_n 0, 1) := by decide +kernel
theorem dX5_findThird_59 : decode cX5_findThird 59 = .ok (.aload_n 1, 1) := by decide +kernel
theorem dX5_findThird_60 : decode cX5_findThird 60 = .ok (.iload 4, 2) := by decide +kernel
theorem dX5_findThird_62 : decode cX5_findThird 62 = .ok (.iload 6, 2) := by decide +kernel
theorem dX5_findThird_64 : decode cX5_findThird 64 = .ok (.invokevirtual 42, 3) := by decide +kernel
theorem dX5_findThird_67 : decode cX5_findThird 67 = .ok (.ifCond .eq 23, 3) := by decide +kernel
theorem dX5_findThird_70 : decode cX5_findThird 70 = .ok (.aload_n 0, 1) := by decide +kernel
theorem dX5_findThird_71 : decode cX5_findThird 71 = .ok (.aload_n 1, 1) := by decide +kernel
theorem dX5_findThird_72 : decode cX5_findThird 72 = .ok (.iload 6, 2) := by decide +kernel
theorem dX5_findThird_74 : decode cX5_findThird 74 = .ok (.iload_n 3, 1) := by decide +kernel
theorem dX5_findThird_75 : decode cX5_findThird 75 = .ok (.invokevirtual 42, 3) := by decide +kernel
theorem dX5_findThird_78 : decode cX5_findThird 78 = .ok (.ifCond .eq 12, 3) := by decide +kernel
theorem dX5_findThird_81 : decode cX5_findThird 81 = .ok (.aload_n 0, 1) := by decide +kernel
theorem dX5_findThird_82 : decode cX5_findThird 82 = .ok (.iload_n 3, 1) := by decide +kernel
theorem dX5_findThird_83 : decode cX5_findThird 83 = .ok (.iload 4, 2) := by decide +kernel
theorem dX5_findThird_85 : decode cX5_findThird 85 = .ok (.iload 6, 2) := by decide +kernel
theorem dX5_findThird_87 : decode cX5_findThird 87 = .ok (.invokevirtual 53, 3) := by decide +kernel
theorem dX5_findThird_90 : decode cX5_findThird 90 = .ok (.iinc 6 1, 3) := by decide +kernel
theorem dX5_findThird_93 : decode cX5_findThird 93 = .ok (.goto (-63), 3) := by decide +kernel
theorem dX5_findThird_96 : decode cX5_findThird 96 = .ok (.return_, 1) := by decide +kernel
theorem dX5_note_0 : decode cX5_note 0 = .ok (.aload_n 0, 1) := by decide +kernel
theorem dX5_note_1 : decode cX5_note 1 = .ok (.getfield 46, 3) := by decide +kernel
theorem dX5_note_4 : decode cX5_note 4 = .ok (.bipush 70, 2) := by decide +kernel
theorem dX5_note_6 : decode cX5_note 6 = .ok (.if_icmp .ge 53, 3) := by decide +kernel
theorem dX5_note_9 : decode cX5_note 9 = .ok (.aload_n 0, 1) := by decide +kernel
theorem dX5_note_10 : decode cX5_note 10 = .ok (.getfield 15, 3) := by decide +kernel
theorem dX5_note_13 : decode cX5_note 13 = .ok (.aload_n 0, 1) := by decide +kernel
theorem dX5_note_14 : decode cX5_note 14 = .ok (.getfield 46, 3) := by decide +kernel
theorem dX5_note_17 : decode cX5_note 17 = .ok (.iconst 3, 1) := by decide +kernel
theorem dX5_note_18 : decode cX5_note 18 = .ok (.imul, 1) := by decide +kernel
theorem dX5_note_19 : decode cX5_note 19 = .ok (.iload_n 1, 1) := by decide +kernel
theorem dX5_note_20 : decode cX5_note 20 = .ok (.iastore, 1) := by decide +kernel
theorem dX5_note_21 : decode cX5_note 21 = .ok (.aload_n 0, 1) := by decide +kernel
theorem dX5_note_22 : decode cX5_note 22 = .ok (.getfield 15, 3) := by decide +kernel
theorem dX5_note_25 : decode cX5_note 25 = .ok (.aload_n 0, 1) := by decide +kernel
theorem dX5_note_26 : decode cX5_note 26 = .ok (.getfield 46, 3) := by decide +kernel
theorem dX5_note_29 : decode cX5_note 29 = .ok (.iconst 3, 1) := by decide +kernel
theorem dX5_note_30 : decode cX5_note 30 = .ok (.imul, 1) := by decide +kernel
theorem dX5_note_31 : decode cX5_note 31 = .ok (.iconst 1, 1) := by decide +kernel
theorem dX5_note_32 : decode cX5_note 32 = .ok (.iadd, 1) := by decide +kernel
theorem dX5_note_33 : decode cX5_note 33 = .ok (.iload_n 2, 1) := by decide +kernel
theorem dX5_note_34 : decode cX5_note 34 = .ok (.iastore, 1) := by decide +kernel
theorem dX5_note_35 : decode cX5_note 35 = .ok (.aload_n 0, 1) := by decide +kernel
theorem dX5_note_36 : decode cX5_note 36 = .ok (.getfield 15, 3) := by decide +kernel
theorem dX5_note_39 : decode cX5_note 39 = .ok (.aload_n 0, 1) := by decide +kernel
theorem dX5_note_40 : decode cX5_note 40 = .ok (.getfield 46, 3) := by decide +kernel
theorem dX5_note_43 : decode cX5_note 43 = .ok (.iconst 3, 1) := by decide +kernel
theorem dX5_note_44 : decode cX5_note 44 = .ok (.imul, 1) := by decide +kernel
theorem dX5_note_45 : decode cX5_note 45 = .ok (.iconst 2, 1) := by decide +kernel
theorem dX5_note_46 : decode cX5_note 46 = .ok (.iadd, 1) := by decide +kernel
theorem dX5_note_47 : decode cX5_note 47 = .ok (.iload_n 3, 1) := by decide +kernel
theorem dX5_note_48 : decode cX5_note 48 = .ok (.iastore, 1) := by decide +kernel
theorem dX5_note_49 : decode cX5_note 49 = .ok (.aload_n 0, 1) := by decide +kernel
theorem dX5_note_50 : decode cX5_note 50 = .ok (.dup, 1) := by decide +kernel
theorem dX5_note_51 : decode cX5_note 51 = .ok (.getfield 46, 3) := by decide +kernel
theorem dX5_note_54 : decode cX5_note 54 = .ok (.iconst 1, 1) := by decide +kernel
theorem dX5_note_55 : decode cX5_note 55 = .ok (.iadd, 1) := by decide +kernel
theorem dX5_note_56 : decode cX5_note 56 = .ok (.putfield 46, 3) := by decide +kernel
theorem dX5_note_59 : decode cX5_note 59 = .ok (.return_, 1) := by decide +kernel
theorem dX5_passFound_0 : decode cX5_passFound 0 = .ok (.aload_n 1, 1) := by decide +kernel
theorem dX5_passFound_1 : decode cX5_passFound 1 = .ok (.aload_n 0, 1) := by decide +kernel
theorem dX5_passFound_2 : decode cX5_passFound 2 = .ok (.getfield 15, 3) := by decide +kernel
theorem dX5_passFound_5 : decode cX5_passFound 5 = .ok (.iload_n 2, 1) := by decide +kernel
theorem dX5_passFound_6 : decode cX5_passFound 6 = .ok (.iconst 3, 1) := by decide +kernel
theorem dX5_passFound_7 : decode cX5_passFound 7 = .ok (.imul, 1) := by decide +kernel
theorem dX5_passFound_8 : decode cX5_passFound 8 = .ok (.iaload, 1) := by decide +kernel
theorem dX5_passFound_9 : decode cX5_passFound 9 = .ok (.aload_n 0, 1) := by decide +kernel
theorem dX5_passFound_10 : decode cX5_passFound 10 = .ok (.getfield 15, 3) := by decide +kernel
theorem dX5_passFound_13 : decode cX5_passFound 13 = .ok (.iload_n 2, 1) := by decide +kernel
theorem dX5_passFound_14 : decode cX5_passFound 14 = .ok (.iconst 3, 1) := by decide +kernel
theorem dX5_passFound_15 : decode cX5_passFound 15 = .ok (.imul, 1) := by decide +kernel
theorem dX5_passFound_16 : decode cX5_passFound 16 = .ok (.iconst 1, 1) := by decide +kernel
theorem dX5_passFound_17 : decode cX5_passFound 17 = .ok (.iadd, 1) := by decide +kernel
theorem dX5_passFound_18 : decode cX5_passFound 18 = .ok (.iaload, 1) := by decide +kernel
theorem dX5_passFound_19 : decode cX5_passFound 19 = .ok (.aload_n 0, 1) := by decide +kernel
theorem dX5_passFound_20 : decode cX5_passFound 20 = .ok (.getfield 15, 3) := by decide +kernel
theorem dX5_passFound_23 : decode cX5_passFound 23 = .ok (.iload_n 2, 1) := by decide +kernel
theorem dX5_passFound_24 : decode cX5_passFound 24 = .ok (.iconst 3, 1) := by decide +kernel
theorem dX5_passFound_25 : decode cX5_passFound 25 = .ok (.imul, 1) := by decide +kernel
theorem dX5_passFound_26 : decode cX5_passFound 26 = .ok (.iconst 2, 1) := by decide +kernel
theorem dX5_passFound_27 : decode cX5_passFound 27 = .ok (.iadd, 1) := by decide +kernel
theorem dX5_passFound_28 : decode cX5_passFound 28 = .ok (.iaload, 1) := by decide +kernel
theorem dX5_passFound_29 : decode cX5_passFound 29 = .ok (.invokestatic 57, 3) := by decide +kernel
theorem dX5_passFound_32 : decode cX5_passFound 32 = .ok (.return_, 1) := by decide +kernel
theorem dX5_passAll_0 : decode cX5_passAll 0 = .ok (.iconst 0, 1) := by decide +kernel
theorem dX5_passAll_1 : decode cX5_passAll 1 = .ok (.istore_n 3, 1) := by decide +kernel
theorem dX5_passAll_2 : decode cX5_passAll 2 = .ok (.iload_n 3, 1) := by decide +kernel
theorem dX5_passAll_3 : decode cX5_passAll 3 = .ok (.bipush 63, 2) := by decide +kernel
theorem dX5_passAll_5 : decode cX5_passAll 5 = .ok (.if_icmp .ge 31, 3) := by decide +kernel
