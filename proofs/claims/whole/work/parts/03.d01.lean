theorem dX2_open_17 : decode cX2_open 17 = .ok (.arraylength, 1) := by decide +kernel
theorem dX2_open_18 : decode cX2_open 18 = .ok (.if_icmp .ge 23, 3) := by decide +kernel
theorem dX2_open_21 : decode cX2_open 21 = .ok (.aload_n 0, 1) := by decide +kernel
theorem dX2_open_22 : decode cX2_open 22 = .ok (.getfield 9, 3) := by decide +kernel
theorem dX2_open_25 : decode cX2_open 25 = .ok (.iload_n 2, 1) := by decide +kernel
theorem dX2_open_26 : decode cX2_open 26 = .ok (.iconst 5, 1) := by decide +kernel
theorem dX2_open_27 : decode cX2_open 27 = .ok (.iastore, 1) := by decide +kernel
theorem dX2_open_28 : decode cX2_open 28 = .ok (.aload_n 0, 1) := by decide +kernel
theorem dX2_open_29 : decode cX2_open 29 = .ok (.getfield 15, 3) := by decide +kernel
theorem dX2_open_32 : decode cX2_open 32 = .ok (.iload_n 2, 1) := by decide +kernel
theorem dX2_open_33 : decode cX2_open 33 = .ok (.iconst 5, 1) := by decide +kernel
theorem dX2_open_34 : decode cX2_open 34 = .ok (.iastore, 1) := by decide +kernel
theorem dX2_open_35 : decode cX2_open 35 = .ok (.iinc 2 1, 3) := by decide +kernel
theorem dX2_open_38 : decode cX2_open 38 = .ok (.goto (-26), 3) := by decide +kernel
theorem dX2_open_41 : decode cX2_open 41 = .ok (.iconst 0, 1) := by decide +kernel
theorem dX2_open_42 : decode cX2_open 42 = .ok (.istore_n 2, 1) := by decide +kernel
theorem dX2_open_43 : decode cX2_open 43 = .ok (.iload_n 2, 1) := by decide +kernel
theorem dX2_open_44 : decode cX2_open 44 = .ok (.bipush 7, 2) := by decide +kernel
theorem dX2_open_46 : decode cX2_open 46 = .ok (.if_icmp .ge 23, 3) := by decide +kernel
theorem dX2_open_49 : decode cX2_open 49 = .ok (.aload_n 0, 1) := by decide +kernel
theorem dX2_open_50 : decode cX2_open 50 = .ok (.getfield 18, 3) := by decide +kernel
theorem dX2_open_53 : decode cX2_open 53 = .ok (.iload_n 2, 1) := by decide +kernel
theorem dX2_open_54 : decode cX2_open 54 = .ok (.iconst 1, 1) := by decide +kernel
theorem dX2_open_55 : decode cX2_open 55 = .ok (.iastore, 1) := by decide +kernel
theorem dX2_open_56 : decode cX2_open 56 = .ok (.aload_n 0, 1) := by decide +kernel
theorem dX2_open_57 : decode cX2_open 57 = .ok (.getfield 21, 3) := by decide +kernel
theorem dX2_open_60 : decode cX2_open 60 = .ok (.iload_n 2, 1) := by decide +kernel
theorem dX2_open_61 : decode cX2_open 61 = .ok (.iconst (-1), 1) := by decide +kernel
theorem dX2_open_62 : decode cX2_open 62 = .ok (.iastore, 1) := by decide +kernel
theorem dX2_open_63 : decode cX2_open 63 = .ok (.iinc 2 1, 3) := by decide +kernel
theorem dX2_open_66 : decode cX2_open 66 = .ok (.goto (-23), 3) := by decide +kernel
theorem dX2_open_69 : decode cX2_open 69 = .ok (.return_, 1) := by decide +kernel
theorem dX2_obey_0 : decode cX2_obey 0 = .ok (.aload_n 1, 1) := by decide +kernel
theorem dX2_obey_1 : decode cX2_obey 1 = .ok (.iload_n 2, 1) := by decide +kernel
theorem dX2_obey_2 : decode cX2_obey 2 = .ok (.iaload, 1) := by decide +kernel
theorem dX2_obey_3 : decode cX2_obey 3 = .ok (.istore_n 3, 1) := by decide +kernel
theorem dX2_obey_4 : decode cX2_obey 4 = .ok (.aload_n 1, 1) := by decide +kernel
theorem dX2_obey_5 : decode cX2_obey 5 = .ok (.iload_n 2, 1) := by decide +kernel
theorem dX2_obey_6 : decode cX2_obey 6 = .ok (.iconst 1, 1) := by decide +kernel
theorem dX2_obey_7 : decode cX2_obey 7 = .ok (.iadd, 1) := by decide +kernel
theorem dX2_obey_8 : decode cX2_obey 8 = .ok (.iaload, 1) := by decide +kernel
theorem dX2_obey_9 : decode cX2_obey 9 = .ok (.istore 4, 2) := by decide +kernel
theorem dX2_obey_11 : decode cX2_obey 11 = .ok (.iload_n 3, 1) := by decide +kernel
theorem dX2_obey_12 : decode cX2_obey 12 = .ok (.tableswitch 131 0 8 #[52, 131, 131, 131, 131, 61, 84, 107, 116], 52) := by decide +kernel
theorem dX2_obey_64 : decode cX2_obey 64 = .ok (.aload_n 0, 1) := by decide +kernel
theorem dX2_obey_65 : decode cX2_obey 65 = .ok (.iload 4, 2) := by decide +kernel
theorem dX2_obey_67 : decode cX2_obey 67 = .ok (.invokevirtual 31, 3) := by decide +kernel
theorem dX2_obey_70 : decode cX2_obey 70 = .ok (.goto 81, 3) := by decide +kernel
theorem dX2_obey_73 : decode cX2_obey 73 = .ok (.aload_n 0, 1) := by decide +kernel
theorem dX2_obey_74 : decode cX2_obey 74 = .ok (.getfield 9, 3) := by decide +kernel
theorem dX2_obey_77 : decode cX2_obey 77 = .ok (.iload 4, 2) := by decide +kernel
theorem dX2_obey_79 : decode cX2_obey 79 = .ok (.aload_n 1, 1) := by decide +kernel
theorem dX2_obey_80 : decode cX2_obey 80 = .ok (.iload_n 2, 1) := by decide +kernel
theorem dX2_obey_81 : decode cX2_obey 81 = .ok (.iconst 2, 1) := by decide +kernel
theorem dX2_obey_82 : decode cX2_obey 82 = .ok (.iadd, 1) := by decide +kernel
theorem dX2_obey_83 : decode cX2_obey 83 = .ok (.iaload, 1) := by decide +kernel
theorem dX2_obey_84 : decode cX2_obey 84 = .ok (.invokestatic 35, 3) := by decide +kernel
theorem dX2_obey_87 : decode cX2_obey 87 = .ok (.aload_n 1, 1) := by decide +kernel
theorem dX2_obey_88 : decode cX2_obey 88 = .ok (.iload_n 2, 1) := by decide +kernel
theorem dX2_obey_89 : decode cX2_obey 89 = .ok (.iconst 3, 1) := by decide +kernel
theorem dX2_obey_90 : decode cX2_obey 90 = .ok (.iadd, 1) := by decide +kernel
theorem dX2_obey_91 : decode cX2_obey 91 = .ok (.iaload, 1) := by decide +kernel
theorem dX2_obey_92 : decode cX2_obey 92 = .ok (.iastore, 1) := by decide +kernel
theorem dX2_obey_93 : decode cX2_obey 93 = .ok (.goto 58, 3) := by decide +kernel
theorem dX2_obey_96 : decode cX2_obey 96 = .ok (.aload_n 0, 1) := by decide +kernel
theorem dX2_obey_97 : decode cX2_obey 97 = .ok (.getfield 15, 3) := by decide +kernel
theorem dX2_obey_100 : decode cX2_obey 100 = .ok (.iload 4, 2) := by decide +kernel
theorem dX2_obey_102 : decode cX2_obey 102 = .ok (.aload_n 1, 1) := by decide +kernel
theorem dX2_obey_103 : decode cX2_obey 103 = .ok (.iload_n 2, 1) := by decide +kernel
theorem dX2_obey_104 : decode cX2_obey 104 = .ok (.iconst 2, 1) := by decide +kernel
theorem dX2_obey_105 : decode cX2_obey 105 = .ok (.iadd, 1) := by decide +kernel
theorem dX2_obey_106 : decode cX2_obey 106 = .ok (.iaload, 1) := by decide +kernel
theorem dX2_obey_107 : decode cX2_obey 107 = .ok (.invokestatic 35, 3) := by decide +kernel
theorem dX2_obey_110 : decode cX2_obey 110 = .ok (.aload_n 1, 1) := by decide +kernel
theorem dX2_obey_111 : decode cX2_obey 111 = .ok (.iload_n 2, 1) := by decide +kernel
theorem dX2_obey_112 : decode cX2_obey 112 = .ok (.iconst 3, 1) := by decide +kernel
theorem dX2_obey_113 : decode cX2_obey 113 = .ok (.iadd, 1) := by decide +kernel
theorem dX2_obey_114 : decode cX2_obey 114 = .ok (.iaload, 1) := by decide +kernel
theorem dX2_obey_115 : decode cX2_obey 115 = .ok (.iastore, 1) := by decide +kernel
theorem dX2_obey_116 : decode cX2_obey 116 = .ok (.goto 35, 3) := by decide +kernel
theorem dX2_obey_119 : decode cX2_obey 119 = .ok (.aload_n 0, 1) := by decide +kernel
theorem dX2_obey_120 : decode cX2_obey 120 = .ok (.iload 4, 2) := by decide +kernel
theorem dX2_obey_122 : decode cX2_obey 122 = .ok (.putfield 28, 3) := by decide +kernel
theorem dX2_obey_125 : decode cX2_obey 125 = .ok (.goto 26, 3) := by decide +kernel
theorem dX2_obey_128 : decode cX2_obey 128 = .ok (.aload_n 0, 1) := by decide +kernel
theorem dX2_obey_129 : decode cX2_obey 129 = .ok (.getfield 21, 3) := by decide +kernel
theorem dX2_obey_132 : decode cX2_obey 132 = .ok (.iload 4, 2) := by decide +kernel
theorem dX2_obey_134 : decode cX2_obey 134 = .ok (.aload_n 1, 1) := by decide +kernel
theorem dX2_obey_135 : decode cX2_obey 135 = .ok (.iload_n 2, 1) := by decide +kernel
theorem dX2_obey_136 : decode cX2_obey 136 = .ok (.iconst 2, 1) := by decide +kernel
theorem dX2_obey_137 : decode cX2_obey 137 = .ok (.iadd, 1) := by decide +kernel
theorem dX2_obey_138 : decode cX2_obey 138 = .ok (.iaload, 1) := by decide +kernel
theorem dX2_obey_139 : decode cX2_obey 139 = .ok (.iastore, 1) := by decide +kernel
theorem dX2_obey_140 : decode cX2_obey 140 = .ok (.goto 11, 3) := by decide +kernel
theorem dX2_obey_143 : decode cX2_obey 143 = .ok (.aload_n 0, 1) := by decide +kernel
theorem dX2_obey_144 : decode cX2_obey 144 = .ok (.getfield 18, 3) := by decide +kernel
theorem dX2_obey_147 : decode cX2_obey 147 = .ok (.iload 4, 2) := by decide +kernel
theorem dX2_obey_149 : decode cX2_obey 149 = .ok (.iload_n 3, 1) := by decide +kernel
theorem dX2_obey_150 : decode cX2_obey 150 = .ok (.iastore, 1) := by decide +kernel
theorem dX2_obey_151 : decode cX2_obey 151 = .ok (.return_, 1) := by decide +kernel
theorem dX2_skillOf_0 : decode cX2_skillOf 0 = .ok (.aload_n 0, 1) := by decide +kernel
theorem dX2_skillOf_1 : decode cX2_skillOf 1 = .ok (.getfield 9, 3) := by decide +kernel
theorem dX2_skillOf_4 : decode cX2_skillOf 4 = .ok (.iload_n 1, 1) := by decide +kernel
theorem dX2_skillOf_5 : decode cX2_skillOf 5 = .ok (.iload_n 2, 1) := by decide +kernel
theorem dX2_skillOf_6 : decode cX2_skillOf 6 = .ok (.invokestatic 35, 3) := by decide +kernel
theorem dX2_skillOf_9 : decode cX2_skillOf 9 = .ok (.iaload, 1) := by decide +kernel
theorem dX2_skillOf_10 : decode cX2_skillOf 10 = .ok (.ireturn, 1) := by decide +kernel
theorem dX2_likingOf_0 : decode cX2_likingOf 0 = .ok (.aload_n 0, 1) := by decide +kernel
theorem dX2_likingOf_1 : decode cX2_likingOf 1 = .ok (.getfield 15, 3) := by decide +kernel
theorem dX2_likingOf_4 : decode cX2_likingOf 4 = .ok (.iload_n 1, 1) := by decide +kernel
theorem dX2_likingOf_5 : decode cX2_likingOf 5 = .ok (.bipush 7, 2) := by decide +kernel
theorem dX2_likingOf_7 : decode cX2_likingOf 7 = .ok (.imul, 1) := by decide +kernel
theorem dX2_likingOf_8 : decode cX2_likingOf 8 = .ok (.iload_n 2, 1) := by decide +kernel
theorem dX2_likingOf_9 : decode cX2_likingOf 9 = .ok (.iadd, 1) := by decide +kernel
theorem dX2_likingOf_10 : decode cX2_likingOf 10 = .ok (.iaload, 1) := by decide +kernel
theorem dX2_likingOf_11 : decode cX2_likingOf 11 = .ok (.ireturn, 1) := by decide +kernel
theorem dX2_isA_0 : decode cX2_isA 0 = .ok (.aload_n 0, 1) := by decide +kernel
theorem dX2_isA_1 : decode cX2_isA 1 = .ok (.getfield 18, 3) := by decide +kernel
theorem dX2_isA_4 : decode cX2_isA 4 = .ok (.iload_n 1, 1) := by decide +kernel
theorem dX2_isA_5 : decode cX2_isA 5 = .ok (.iaload, 1) := by decide +kernel
theorem dX2_isA_6 : decode cX2_isA 6 = .ok (.istore_n 3, 1) := by decide +kernel
theorem dX2_isA_7 : decode cX2_isA 7 = .ok (.iconst 0, 1) := by decide +kernel
theorem dX2_isA_8 : decode cX2_isA 8 = .ok (.istore 4, 2) := by decide +kernel
theorem dX2_isA_10 : decode cX2_isA 10 = .ok (.iload 4, 2) := by decide +kernel
theorem dX2_isA_12 : decode cX2_isA 12 = .ok (.iconst 5, 1) := by decide +kernel
theorem dX2_isA_13 : decode cX2_isA 13 = .ok (.if_icmp .ge 27, 3) := by decide +kernel
theorem dX2_isA_16 : decode cX2_isA 16 = .ok (.iload_n 3, 1) := by decide +kernel
theorem dX2_isA_17 : decode cX2_isA 17 = .ok (.iconst (-1), 1) := by decide +kernel
theorem dX2_isA_18 : decode cX2_isA 18 = .ok (.if_icmp .eq 22, 3) := by decide +kernel
theorem dX2_isA_21 : decode cX2_isA 21 = .ok (.iload_n 3, 1) := by decide +kernel
theorem dX2_isA_22 : decode cX2_isA 22 = .ok (.iload_n 2, 1) := by decide +kernel
theorem dX2_isA_23 : decode cX2_isA 23 = .ok (.if_icmp .ne 5, 3) := by decide +kernel
theorem dX2_isA_26 : decode cX2_isA 26 = .ok (.iconst 1, 1) := by decide +kernel
theorem dX2_isA_27 : decode cX2_isA 27 = .ok (.ireturn, 1) := by decide +kernel
theorem dX2_isA_28 : decode cX2_isA 28 = .ok (.getstatic 39, 3) := by decide +kernel
theorem dX2_isA_31 : decode cX2_isA 31 = .ok (.iload_n 3, 1) := by decide +kernel
theorem dX2_isA_32 : decode cX2_isA 32 = .ok (.iaload, 1) := by decide +kernel
theorem dX2_isA_33 : decode cX2_isA 33 = .ok (.istore_n 3, 1) := by decide +kernel
theorem dX2_isA_34 : decode cX2_isA 34 = .ok (.iinc 4 1, 3) := by decide +kernel
theorem dX2_isA_37 : decode cX2_isA 37 = .ok (.goto (-27), 3) := by decide +kernel
theorem dX2_isA_40 : decode cX2_isA 40 = .ok (.iconst 0, 1) := by decide +kernel
theorem dX2_isA_41 : decode cX2_isA 41 = .ok (.ireturn, 1) := by decide +kernel
theorem dX2_mayFollow_0 : decode cX2_mayFollow 0 = .ok (.iload_n 2, 1) := by decide +kernel
theorem dX2_mayFollow_1 : decode cX2_mayFollow 1 = .ok (.ifCond .lt 11, 3) := by decide +kernel
theorem dX2_mayFollow_4 : decode cX2_mayFollow 4 = .ok (.iload_n 2, 1) := by decide +kernel
theorem dX2_mayFollow_5 : decode cX2_mayFollow 5 = .ok (.aload_n 0, 1) := by decide +kernel
theorem dX2_mayFollow_6 : decode cX2_mayFollow 6 = .ok (.getfield 24, 3) := by decide +kernel
theorem dX2_mayFollow_9 : decode cX2_mayFollow 9 = .ok (.if_icmp .lt 5, 3) := by decide +kernel
theorem dX2_mayFollow_12 : decode cX2_mayFollow 12 = .ok (.iconst 1, 1) := by decide +kernel
theorem dX2_mayFollow_13 : decode cX2_mayFollow 13 = .ok (.ireturn, 1) := by decide +kernel
theorem dX2_mayFollow_14 : decode cX2_mayFollow 14 = .ok (.aload_n 0, 1) := by decide +kernel
theorem dX2_mayFollow_15 : decode cX2_mayFollow 15 = .ok (.getfield 18, 3) := by decide +kernel
theorem dX2_mayFollow_18 : decode cX2_mayFollow 18 = .ok (.iload_n 1, 1) := by decide +kernel
theorem dX2_mayFollow_19 : decode cX2_mayFollow 19 = .ok (.iaload, 1) := by decide +kernel
theorem dX2_mayFollow_20 : decode cX2_mayFollow 20 = .ok (.iconst 2, 1) := by decide +kernel
theorem dX2_mayFollow_21 : decode cX2_mayFollow 21 = .ok (.if_icmp .ne 19, 3) := by decide +kernel
theorem dX2_mayFollow_24 : decode cX2_mayFollow 24 = .ok (.aload_n 0, 1) := by decide +kernel
theorem dX2_mayFollow_25 : decode cX2_mayFollow 25 = .ok (.getfield 18, 3) := by decide +kernel
theorem dX2_mayFollow_28 : decode cX2_mayFollow 28 = .ok (.iload_n 2, 1) := by decide +kernel
theorem dX2_mayFollow_29 : decode cX2_mayFollow 29 = .ok (.iaload, 1) := by decide +kernel
theorem dX2_mayFollow_30 : decode cX2_mayFollow 30 = .ok (.iconst 2, 1) := by decide +kernel
theorem dX2_mayFollow_31 : decode cX2_mayFollow 31 = .ok (.if_icmp .eq 7, 3) := by decide +kernel
theorem dX2_mayFollow_34 : decode cX2_mayFollow 34 = .ok (.iconst 1, 1) := by decide +kernel
theorem dX2_mayFollow_35 : decode cX2_mayFollow 35 = .ok (.goto 4, 3) := by decide +kernel
theorem dX2_mayFollow_38 : decode cX2_mayFollow 38 = .ok (.iconst 0, 1) := by decide +kernel
theorem dX2_mayFollow_39 : decode cX2_mayFollow 39 = .ok (.ireturn, 1) := by decide +kernel
theorem dX2_mayFollow_40 : decode cX2_mayFollow 40 = .ok (.aload_n 0, 1) := by decide +kernel
theorem dX2_mayFollow_41 : decode cX2_mayFollow 41 = .ok (.getfield 18, 3) := by decide +kernel
theorem dX2_mayFollow_44 : decode cX2_mayFollow 44 = .ok (.iload_n 1, 1) := by decide +kernel
theorem dX2_mayFollow_45 : decode cX2_mayFollow 45 = .ok (.iaload, 1) := by decide +kernel
theorem dX2_mayFollow_46 : decode cX2_mayFollow 46 = .ok (.iconst 3, 1) := by decide +kernel
theorem dX2_mayFollow_47 : decode cX2_mayFollow 47 = .ok (.if_icmp .ne 8, 3) := by decide +kernel
theorem dX2_mayFollow_50 : decode cX2_mayFollow 50 = .ok (.iload_n 2, 1) := by decide +kernel
theorem dX2_mayFollow_51 : decode cX2_mayFollow 51 = .ok (.iload_n 1, 1) := by decide +kernel
theorem dX2_mayFollow_52 : decode cX2_mayFollow 52 = .ok (.if_icmp .eq 7, 3) := by decide +kernel
theorem dX2_mayFollow_55 : decode cX2_mayFollow 55 = .ok (.iconst 1, 1) := by decide +kernel
theorem dX2_mayFollow_56 : decode cX2_mayFollow 56 = .ok (.goto 4, 3) := by decide +kernel
theorem dX2_mayFollow_59 : decode cX2_mayFollow 59 = .ok (.iconst 0, 1) := by decide +kernel
theorem dX2_mayFollow_60 : decode cX2_mayFollow 60 = .ok (.ireturn, 1) := by decide +kernel
theorem dX2_workOf_0 : decode cX2_workOf 0 = .ok (.iconst 0, 1) := by decide +kernel
theorem dX2_workOf_1 : decode cX2_workOf 1 = .ok (.istore_n 2, 1) := by decide +kernel
theorem dX2_workOf_2 : decode cX2_workOf 2 = .ok (.iconst 0, 1) := by decide +kernel
theorem dX2_workOf_3 : decode cX2_workOf 3 = .ok (.istore_n 3, 1) := by decide +kernel
theorem dX2_workOf_4 : decode cX2_workOf 4 = .ok (.iload_n 3, 1) := by decide +kernel
theorem dX2_workOf_5 : decode cX2_workOf 5 = .ok (.aload_n 0, 1) := by decide +kernel
theorem dX2_workOf_6 : decode cX2_workOf 6 = .ok (.getfield 24, 3) := by decide +kernel
theorem dX2_workOf_9 : decode cX2_workOf 9 = .ok (.if_icmp .ge 20, 3) := by decide +kernel
theorem dX2_workOf_12 : decode cX2_workOf 12 = .ok (.iload_n 2, 1) := by decide +kernel
theorem dX2_workOf_13 : decode cX2_workOf 13 = .ok (.aload_n 0, 1) := by decide +kernel
theorem dX2_workOf_14 : decode cX2_workOf 14 = .ok (.iload_n 3, 1) := by decide +kernel
theorem dX2_workOf_15 : decode cX2_workOf 15 = .ok (.aload_n 1, 1) := by decide +kernel
theorem dX2_workOf_16 : decode cX2_workOf 16 = .ok (.iload_n 3, 1) := by decide +kernel
theorem dX2_workOf_17 : decode cX2_workOf 17 = .ok (.iaload, 1) := by decide +kernel
theorem dX2_workOf_18 : decode cX2_workOf 18 = .ok (.invokevirtual 42, 3) := by decide +kernel
theorem dX2_workOf_21 : decode cX2_workOf 21 = .ok (.iadd, 1) := by decide +kernel
theorem dX2_workOf_22 : decode cX2_workOf 22 = .ok (.istore_n 2, 1) := by decide +kernel
theorem dX2_workOf_23 : decode cX2_workOf 23 = .ok (.iinc 3 1, 3) := by decide +kernel
theorem dX2_workOf_26 : decode cX2_workOf 26 = .ok (.goto (-22), 3) := by decide +kernel
theorem dX2_workOf_29 : decode cX2_workOf 29 = .ok (.iload_n 2, 1) := by decide +kernel
theorem dX2_workOf_30 : decode cX2_workOf 30 = .ok (.ireturn, 1) := by decide +kernel
theorem dX2_gladnessOf_0 : decode cX2_gladnessOf 0 = .ok (.iconst 0, 1) := by decide +kernel
theorem dX2_gladnessOf_1 : decode cX2_gladnessOf 1 = .ok (.istore_n 2, 1) := by decide +kernel
theorem dX2_gladnessOf_2 : decode cX2_gladnessOf 2 = .ok (.iconst 0, 1) := by decide +kernel
theorem dX2_gladnessOf_3 : decode cX2_gladnessOf 3 = .ok (.istore_n 3, 1) := by decide +kernel
theorem dX2_gladnessOf_4 : decode cX2_gladnessOf 4 = .ok (.iload_n 3, 1) := by decide +kernel
theorem dX2_gladnessOf_5 : decode cX2_gladnessOf 5 = .ok (.aload_n 0, 1) := by decide +kernel
theorem dX2_gladnessOf_6 : decode cX2_gladnessOf 6 = .ok (.getfield 24, 3) := by decide +kernel
theorem dX2_gladnessOf_9 : decode cX2_gladnessOf 9 = .ok (.if_icmp .ge 20, 3) := by decide +kernel
theorem dX2_gladnessOf_12 : decode cX2_gladnessOf 12 = .ok (.iload_n 2, 1) := by decide +kernel
theorem dX2_gladnessOf_13 : decode cX2_gladnessOf 13 = .ok (.aload_n 0, 1) := by decide +kernel
theorem dX2_gladnessOf_14 : decode cX2_gladnessOf 14 = .ok (.iload_n 3, 1) := by decide +kernel
theorem dX2_gladnessOf_15 : decode cX2_gladnessOf 15 = .ok (.aload_n 1, 1) := by decide +kernel
theorem dX2_gladnessOf_16 : decode cX2_gladnessOf 16 = .ok (.iload_n 3, 1) := by decide +kernel
theorem dX2_gladnessOf_17 : decode cX2_gladnessOf 17 = .ok (.iaload, 1) := by decide +kernel
theorem dX2_gladnessOf_18 : decode cX2_gladnessOf 18 = .ok (.invokevirtual 45, 3) := by decide +kernel
theorem dX2_gladnessOf_21 : decode cX2_gladnessOf 21 = .ok (.iadd, 1) := by decide +kernel
theorem dX2_gladnessOf_22 : decode cX2_gladnessOf 22 = .ok (.istore_n 2, 1) := by decide +kernel
theorem dX2_gladnessOf_23 : decode cX2_gladnessOf 23 = .ok (.iinc 3 1, 3) := by decide +kernel
theorem dX2_gladnessOf_26 : decode cX2_gladnessOf 26 = .ok (.goto (-22), 3) := by decide +kernel
theorem dX2_gladnessOf_29 : decode cX2_gladnessOf 29 = .ok (.iload_n 2, 1) := by decide +kernel
theorem dX2_gladnessOf_30 : decode cX2_gladnessOf 30 = .ok (.ireturn, 1) := by decide +kernel
theorem dX3_fill_0 : decode cX3_fill 0 = .ok (.iload_n 2, 1) := by decide +kernel
theorem dX3_fill_1 : decode cX3_fill 1 = .ok (.istore_n 3, 1) := by decide +kernel
theorem dX3_fill_2 : decode cX3_fill 2 = .ok (.iconst 0, 1) := by decide +kernel
theorem dX3_fill_3 : decode cX3_fill 3 = .ok (.istore 4, 2) := by decide +kernel
theorem dX3_fill_5 : decode cX3_fill 5 = .ok (.iconst 0, 1) := by decide +kernel
theorem dX3_fill_6 : decode cX3_fill 6 = .ok (.istore 5, 2) := by decide +kernel
theorem dX3_fill_8 : decode cX3_fill 8 = .ok (.iload 5, 2) := by decide +kernel
theorem dX3_fill_10 : decode cX3_fill 10 = .ok (.iload_n 1, 1) := by decide +kernel
theorem dX3_fill_11 : decode cX3_fill 11 = .ok (.if_icmp .ge 99, 3) := by decide +kernel
theorem dX3_fill_14 : decode cX3_fill 14 = .ok (.getstatic 9, 3) := by decide +kernel
theorem dX3_fill_17 : decode cX3_fill 17 = .ok (.iload_n 1, 1) := by decide +kernel
theorem dX3_fill_18 : decode cX3_fill 18 = .ok (.iconst 1, 1) := by decide +kernel
theorem dX3_fill_19 : decode cX3_fill 19 = .ok (.isub, 1) := by decide +kernel
theorem dX3_fill_20 : decode cX3_fill 20 = .ok (.iload 5, 2) := by decide +kernel
theorem dX3_fill_22 : decode cX3_fill 22 = .ok (.isub, 1) := by decide +kernel
theorem dX3_fill_23 : decode cX3_fill 23 = .ok (.iaload, 1) := by decide +kernel
theorem dX3_fill_24 : decode cX3_fill 24 = .ok (.istore 6, 2) := by decide +kernel
theorem dX3_fill_26 : decode cX3_fill 26 = .ok (.iconst 0, 1) := by decide +kernel
theorem dX3_fill_27 : decode cX3_fill 27 = .ok (.istore 7, 2) := by decide +kernel
theorem dX3_fill_29 : decode cX3_fill 29 = .ok (.iconst 0, 1) := by decide +kernel
theorem dX3_fill_30 : decode cX3_fill 30 = .ok (.istore 8, 2) := by decide +kernel
theorem dX3_fill_32 : decode cX3_fill 32 = .ok (.iload 8, 2) := by decide +kernel
theorem dX3_fill_34 : decode cX3_fill 34 = .ok (.iload_n 1, 1) := by decide +kernel
theorem dX3_fill_35 : decode cX3_fill 35 = .ok (.if_icmp .ge 69, 3) := by decide +kernel
theorem dX3_fill_38 : decode cX3_fill 38 = .ok (.iload 7, 2) := by decide +kernel
theorem dX3_fill_40 : decode cX3_fill 40 = .ok (.ifCond .ne 64, 3) := by decide +kernel
theorem dX3_fill_43 : decode cX3_fill 43 = .ok (.iload 4, 2) := by decide +kernel
theorem dX3_fill_45 : decode cX3_fill 45 = .ok (.iload 8, 2) := by decide +kernel
theorem dX3_fill_47 : decode cX3_fill 47 = .ok (.ishr, 1) := by decide +kernel
theorem dX3_fill_48 : decode cX3_fill 48 = .ok (.iconst 1, 1) := by decide +kernel
theorem dX3_fill_49 : decode cX3_fill 49 = .ok (.iand, 1) := by decide +kernel
theorem dX3_fill_50 : decode cX3_fill 50 = .ok (.iconst 1, 1) := by decide +kernel
theorem dX3_fill_51 : decode cX3_fill 51 = .ok (.if_icmp .ne 6, 3) := by decide +kernel
theorem dX3_fill_54 : decode cX3_fill 54 = .ok (.goto 44, 3) := by decide +kernel
theorem dX3_fill_57 : decode cX3_fill 57 = .ok (.iload_n 3, 1) := by decide +kernel
theorem dX3_fill_58 : decode cX3_fill 58 = .ok (.iload 6, 2) := by decide +kernel
theorem dX3_fill_60 : decode cX3_fill 60 = .ok (.if_icmp .ge 7, 3) := by decide +kernel
theorem dX3_fill_63 : decode cX3_fill 63 = .ok (.iconst 1, 1) := by decide +kernel
theorem dX3_fill_64 : decode cX3_fill 64 = .ok (.goto 4, 3) := by decide +kernel
theorem dX3_fill_67 : decode cX3_fill 67 = .ok (.iconst 0, 1) := by decide +kernel
theorem dX3_fill_68 : decode cX3_fill 68 = .ok (.istore 7, 2) := by decide +kernel
theorem dX3_fill_70 : decode cX3_fill 70 = .ok (.iload 7, 2) := by decide +kernel
theorem dX3_fill_72 : decode cX3_fill 72 = .ok (.ifCond .eq 21, 3) := by decide +kernel
theorem dX3_fill_75 : decode cX3_fill 75 = .ok (.aload_n 0, 1) := by decide +kernel
theorem dX3_fill_76 : decode cX3_fill 76 = .ok (.iload 5, 2) := by decide +kernel
theorem dX3_fill_78 : decode cX3_fill 78 = .ok (.iload 8, 2) := by decide +kernel
theorem dX3_fill_80 : decode cX3_fill 80 = .ok (.iastore, 1) := by decide +kernel
theorem dX3_fill_81 : decode cX3_fill 81 = .ok (.iload 4, 2) := by decide +kernel
theorem dX3_fill_83 : decode cX3_fill 83 = .ok (.iconst 1, 1) := by decide +kernel
theorem dX3_fill_84 : decode cX3_fill 84 = .ok (.iload 8, 2) := by decide +kernel
theorem dX3_fill_86 : decode cX3_fill 86 = .ok (.ishl, 1) := by decide +kernel
theorem dX3_fill_87 : decode cX3_fill 87 = .ok (.ior, 1) := by decide +kernel
theorem dX3_fill_88 : decode cX3_fill 88 = .ok (.istore 4, 2) := by decide +kernel
theorem dX3_fill_90 : decode cX3_fill 90 = .ok (.goto 8, 3) := by decide +kernel
theorem dX3_fill_93 : decode cX3_fill 93 = .ok (.iload_n 3, 1) := by decide +kernel
theorem dX3_fill_94 : decode cX3_fill 94 = .ok (.iload 6, 2) := by decide +kernel
theorem dX3_fill_96 : decode cX3_fill 96 = .ok (.isub, 1) := by decide +kernel
theorem dX3_fill_97 : decode cX3_fill 97 = .ok (.istore_n 3, 1) := by decide +kernel
theorem dX3_fill_98 : decode cX3_fill 98 = .ok (.iinc 8 1, 3) := by decide +kernel
theorem dX3_fill_101 : decode cX3_fill 101 = .ok (.goto (-69), 3) := by decide +kernel
theorem dX3_fill_104 : decode cX3_fill 104 = .ok (.iinc 5 1, 3) := by decide +kernel
theorem dX3_fill_107 : decode cX3_fill 107 = .ok (.goto (-99), 3) := by decide +kernel
theorem dX3_fill_110 : decode cX3_fill 110 = .ok (.return_, 1) := by decide +kernel
theorem dX3_numberOf_0 : decode cX3_numberOf 0 = .ok (.iconst 0, 1) := by decide +kernel
theorem dX3_numberOf_1 : decode cX3_numberOf 1 = .ok (.istore_n 2, 1) := by decide +kernel
theorem dX3_numberOf_2 : decode cX3_numberOf 2 = .ok (.iconst 0, 1) := by decide +kernel
theorem dX3_numberOf_3 : decode cX3_numberOf 3 = .ok (.istore_n 3, 1) := by decide +kernel
theorem dX3_numberOf_4 : decode cX3_numberOf 4 = .ok (.iconst 0, 1) := by decide +kernel
theorem dX3_numberOf_5 : decode cX3_numberOf 5 = .ok (.istore 4, 2) := by decide +kernel
theorem dX3_numberOf_7 : decode cX3_numberOf 7 = .ok (.iload 4, 2) := by decide +kernel
theorem dX3_numberOf_9 : decode cX3_numberOf 9 = .ok (.iload_n 1, 1) := by decide +kernel
theorem dX3_numberOf_10 : decode cX3_numberOf 10 = .ok (.if_icmp .ge 51, 3) := by decide +kernel
theorem dX3_numberOf_13 : decode cX3_numberOf 13 = .ok (.iconst 1, 1) := by decide +kernel
theorem dX3_numberOf_14 : decode cX3_numberOf 14 = .ok (.aload_n 0, 1) := by decide +kernel
theorem dX3_numberOf_15 : decode cX3_numberOf 15 = .ok (.iload 4, 2) := by decide +kernel
theorem dX3_numberOf_17 : decode cX3_numberOf 17 = .ok (.iaload, 1) := by decide +kernel
theorem dX3_numberOf_18 : decode cX3_numberOf 18 = .ok (.ishl, 1) := by decide +kernel
theorem dX3_numberOf_19 : decode cX3_numberOf 19 = .ok (.iconst 1, 1) := by decide +kernel
theorem dX3_numberOf_20 : decode cX3_numberOf 20 = .ok (.isub, 1) := by decide +kernel
theorem dX3_numberOf_21 : decode cX3_numberOf 21 = .ok (.istore 5, 2) := by decide +kernel
theorem dX3_numberOf_23 : decode cX3_numberOf 23 = .ok (.iload_n 2, 1) := by decide +kernel
theorem dX3_numberOf_24 : decode cX3_numberOf 24 = .ok (.iload 5, 2) := by decide +kernel
theorem dX3_numberOf_26 : decode cX3_numberOf 26 = .ok (.iload_n 3, 1) := by decide +kernel
theorem dX3_numberOf_27 : decode cX3_numberOf 27 = .ok (.iconst (-1), 1) := by decide +kernel
theorem dX3_numberOf_28 : decode cX3_numberOf 28 = .ok (.ixor, 1) := by decide +kernel
theorem dX3_numberOf_29 : decode cX3_numberOf 29 = .ok (.iand, 1) := by decide +kernel
theorem dX3_numberOf_30 : decode cX3_numberOf 30 = .ok (.invokestatic 13, 3) := by decide +kernel
theorem dX3_numberOf_33 : decode cX3_numberOf 33 = .ok (.getstatic 9, 3) := by decide +kernel
theorem dX3_numberOf_36 : decode cX3_numberOf 36 = .ok (.iload_n 1, 1) := by decide +kernel
theorem dX3_numberOf_37 : decode cX3_numberOf 37 = .ok (.iconst 1, 1) := by decide +kernel
theorem dX3_numberOf_38 : decode cX3_numberOf 38 = .ok (.isub, 1) := by decide +kernel
theorem dX3_numberOf_39 : decode cX3_numberOf 39 = .ok (.iload 4, 2) := by decide +kernel
theorem dX3_numberOf_41 : decode cX3_numberOf 41 = .ok (.isub, 1) := by decide +kernel
theorem dX3_numberOf_42 : decode cX3_numberOf 42 = .ok (.iaload, 1) := by decide +kernel
theorem dX3_numberOf_43 : decode cX3_numberOf 43 = .ok (.imul, 1) := by decide +kernel
theorem dX3_numberOf_44 : decode cX3_numberOf 44 = .ok (.iadd, 1) := by decide +kernel
theorem dX3_numberOf_45 : decode cX3_numberOf 45 = .ok (.istore_n 2, 1) := by decide +kernel
theorem dX3_numberOf_46 : decode cX3_numberOf 46 = .ok (.iload_n 3, 1) := by decide +kernel
theorem dX3_numberOf_47 : decode cX3_numberOf 47 = .ok (.iconst 1, 1) := by decide +kernel
theorem dX3_numberOf_48 : decode cX3_numberOf 48 = .ok (.aload_n 0, 1) := by decide +kernel
theorem dX3_numberOf_49 : decode cX3_numberOf 49 = .ok (.iload 4, 2) := by decide +kernel
theorem dX3_numberOf_51 : decode cX3_numberOf 51 = .ok (.iaload, 1) := by decide +kernel
theorem dX3_numberOf_52 : decode cX3_numberOf 52 = .ok (.ishl, 1) := by decide +kernel
theorem dX3_numberOf_53 : decode cX3_numberOf 53 = .ok (.ior, 1) := by decide +kernel
theorem dX3_numberOf_54 : decode cX3_numberOf 54 = .ok (.istore_n 3, 1) := by decide +kernel
theorem dX3_numberOf_55 : decode cX3_numberOf 55 = .ok (.iinc 4 1, 3) := by decide +kernel
theorem dX3_numberOf_58 : decode cX3_numberOf 58 = .ok (.goto (-51), 3) := by decide +kernel
theorem dX3_numberOf_61 : decode cX3_numberOf 61 = .ok (.iload_n 2, 1) := by decide +kernel
theorem dX3_numberOf_62 : decode cX3_numberOf 62 = .ok (.ireturn, 1) := by decide +kernel
theorem dX3_mix_0 : decode cX3_mix 0 = .ok (.iload_n 2, 1) := by decide +kernel
theorem dX3_mix_1 : decode cX3_mix 1 = .ok (.istore_n 3, 1) := by decide +kernel
theorem dX3_mix_2 : decode cX3_mix 2 = .ok (.iconst 0, 1) := by decide +kernel
theorem dX3_mix_3 : decode cX3_mix 3 = .ok (.istore 4, 2) := by decide +kernel
theorem dX3_mix_5 : decode cX3_mix 5 = .ok (.iload 4, 2) := by decide +kernel
theorem dX3_mix_7 : decode cX3_mix 7 = .ok (.iload_n 1, 1) := by decide +kernel
theorem dX3_mix_8 : decode cX3_mix 8 = .ok (.if_icmp .ge 15, 3) := by decide +kernel
theorem dX3_mix_11 : decode cX3_mix 11 = .ok (.aload_n 0, 1) := by decide +kernel
theorem dX3_mix_12 : decode cX3_mix 12 = .ok (.iload 4, 2) := by decide +kernel
theorem dX3_mix_14 : decode cX3_mix 14 = .ok (.iload 4, 2) := by decide +kernel
theorem dX3_mix_16 : decode cX3_mix 16 = .ok (.iastore, 1) := by decide +kernel
theorem dX3_mix_17 : decode cX3_mix 17 = .ok (.iinc 4 1, 3) := by decide +kernel
theorem dX3_mix_20 : decode cX3_mix 20 = .ok (.goto (-15), 3) := by decide +kernel
theorem dX3_mix_23 : decode cX3_mix 23 = .ok (.iload_n 1, 1) := by decide +kernel
theorem dX3_mix_24 : decode cX3_mix 24 = .ok (.iconst 1, 1) := by decide +kernel
theorem dX3_mix_25 : decode cX3_mix 25 = .ok (.isub, 1) := by decide +kernel
theorem dX3_mix_26 : decode cX3_mix 26 = .ok (.istore 4, 2) := by decide +kernel
theorem dX3_mix_28 : decode cX3_mix 28 = .ok (.iload 4, 2) := by decide +kernel
theorem dX3_mix_30 : decode cX3_mix 30 = .ok (.iconst 1, 1) := by decide +kernel
theorem dX3_mix_31 : decode cX3_mix 31 = .ok (.if_icmp .lt 46, 3) := by decide +kernel
theorem dX3_mix_34 : decode cX3_mix 34 = .ok (.sipush 16807, 3) := by decide +kernel
theorem dX3_mix_37 : decode cX3_mix 37 = .ok (.iload_n 3, 1) := by decide +kernel
theorem dX3_mix_38 : decode cX3_mix 38 = .ok (.imul, 1) := by decide +kernel
theorem dX3_mix_39 : decode cX3_mix 39 = .ok (.ldc 19, 2) := by decide +kernel
theorem dX3_mix_41 : decode cX3_mix 41 = .ok (.irem, 1) := by decide +kernel
theorem dX3_mix_42 : decode cX3_mix 42 = .ok (.istore_n 3, 1) := by decide +kernel
theorem dX3_mix_43 : decode cX3_mix 43 = .ok (.iload_n 3, 1) := by decide +kernel
theorem dX3_mix_44 : decode cX3_mix 44 = .ok (.iload 4, 2) := by decide +kernel
theorem dX3_mix_46 : decode cX3_mix 46 = .ok (.iconst 1, 1) := by decide +kernel
theorem dX3_mix_47 : decode cX3_mix 47 = .ok (.iadd, 1) := by decide +kernel
theorem dX3_mix_48 : decode cX3_mix 48 = .ok (.irem, 1) := by decide +kernel
theorem dX3_mix_49 : decode cX3_mix 49 = .ok (.istore 5, 2) := by decide +kernel
theorem dX3_mix_51 : decode cX3_mix 51 = .ok (.aload_n 0, 1) := by decide +kernel
theorem dX3_mix_52 : decode cX3_mix 52 = .ok (.iload 4, 2) := by decide +kernel
theorem dX3_mix_54 : decode cX3_mix 54 = .ok (.iaload, 1) := by decide +kernel
theorem dX3_mix_55 : decode cX3_mix 55 = .ok (.istore 6, 2) := by decide +kernel
theorem dX3_mix_57 : decode cX3_mix 57 = .ok (.aload_n 0, 1) := by decide +kernel
theorem dX3_mix_58 : decode cX3_mix 58 = .ok (.iload 4, 2) := by decide +kernel
theorem dX3_mix_60 : decode cX3_mix 60 = .ok (.aload_n 0, 1) := by decide +kernel
theorem dX3_mix_61 : decode cX3_mix 61 = .ok (.iload 5, 2) := by decide +kernel
theorem dX3_mix_63 : decode cX3_mix 63 = .ok (.iaload, 1) := by decide +kernel
theorem dX3_mix_64 : decode cX3_mix 64 = .ok (.iastore, 1) := by decide +kernel
theorem dX3_mix_65 : decode cX3_mix 65 = .ok (.aload_n 0, 1) := by decide +kernel
theorem dX3_mix_66 : decode cX3_mix 66 = .ok (.iload 5, 2) := by decide +kernel
theorem dX3_mix_68 : decode cX3_mix 68 = .ok (.iload 6, 2) := by decide +kernel
theorem dX3_mix_70 : decode cX3_mix 70 = .ok (.iastore, 1) := by decide +kernel
theorem dX3_mix_71 : decode cX3_mix 71 = .ok (.iinc 4 (-1), 3) := by decide +kernel
theorem dX3_mix_74 : decode cX3_mix 74 = .ok (.goto (-46), 3) := by decide +kernel
theorem dX3_mix_77 : decode cX3_mix 77 = .ok (.iload_n 3, 1) := by decide +kernel
theorem dX3_mix_78 : decode cX3_mix 78 = .ok (.ireturn, 1) := by decide +kernel
theorem dX4_init_0 : decode cX4_init 0 = .ok (.aload_n 0, 1) := by decide +kernel
theorem dX4_init_1 : decode cX4_init 1 = .ok (.invokespecial 3, 3) := by decide +kernel
theorem dX4_init_4 : decode cX4_init 4 = .ok (.aload_n 0, 1) := by decide +kernel
theorem dX4_init_5 : decode cX4_init 5 = .ok (.bipush 7, 2) := by decide +kernel
theorem dX4_init_7 : decode cX4_init 7 = .ok (.newarray .int, 2) := by decide +kernel
theorem dX4_init_9 : decode cX4_init 9 = .ok (.putfield 9, 3) := by decide +kernel
theorem dX4_init_12 : decode cX4_init 12 = .ok (.aload_n 0, 1) := by decide +kernel
theorem dX4_init_13 : decode cX4_init 13 = .ok (.sipush 600, 3) := by decide +kernel
theorem dX4_init_16 : decode cX4_init 16 = .ok (.newarray .int, 2) := by decide +kernel
theorem dX4_init_18 : decode cX4_init 18 = .ok (.putfield 15, 3) := by decide +kernel
theorem dX4_init_21 : decode cX4_init 21 = .ok (.aload_n 0, 1) := by decide +kernel
theorem dX4_init_22 : decode cX4_init 22 = .ok (.bipush 120, 2) := by decide +kernel
theorem dX4_init_24 : decode cX4_init 24 = .ok (.newarray .int, 2) := by decide +kernel
theorem dX4_init_26 : decode cX4_init 26 = .ok (.putfield 18, 3) := by decide +kernel
theorem dX4_init_29 : decode cX4_init 29 = .ok (.aload_n 0, 1) := by decide +kernel
theorem dX4_init_30 : decode cX4_init 30 = .ok (.bipush 120, 2) := by decide +kernel
theorem dX4_init_32 : decode cX4_init 32 = .ok (.newarray .int, 2) := by decide +kernel
theorem dX4_init_34 : decode cX4_init 34 = .ok (.putfield 21, 3) := by decide +kernel
theorem dX4_init_37 : decode cX4_init 37 = .ok (.aload_n 0, 1) := by decide +kernel
theorem dX4_init_38 : decode cX4_init 38 = .ok (.bipush 120, 2) := by decide +kernel
theorem dX4_init_40 : decode cX4_init 40 = .ok (.newarray .int, 2) := by decide +kernel
theorem dX4_init_42 : decode cX4_init 42 = .ok (.putfield 24, 3) := by decide +kernel
theorem dX4_init_45 : decode cX4_init 45 = .ok (.aload_n 0, 1) := by decide +kernel
theorem dX4_init_46 : decode cX4_init 46 = .ok (.aload_n 1, 1) := by decide +kernel
theorem dX4_init_47 : decode cX4_init 47 = .ok (.putfield 27, 3) := by decide +kernel
theorem dX4_init_50 : decode cX4_init 50 = .ok (.return_, 1) := by decide +kernel
theorem dX4_greatest_0 : decode cX4_greatest 0 = .ok (.aload_n 0, 1) := by decide +kernel
theorem dX4_greatest_1 : decode cX4_greatest 1 = .ok (.getfield 27, 3) := by decide +kernel
theorem dX4_greatest_4 : decode cX4_greatest 4 = .ok (.getfield 31, 3) := by decide +kernel
theorem dX4_greatest_7 : decode cX4_greatest 7 = .ok (.iconst 5, 1) := by decide +kernel
theorem dX4_greatest_8 : decode cX4_greatest 8 = .ok (.if_icmp .le 5, 3) := by decide +kernel
theorem dX4_greatest_11 : decode cX4_greatest 11 = .ok (.iconst (-1), 1) := by decide +kernel
theorem dX4_greatest_12 : decode cX4_greatest 12 = .ok (.ireturn, 1) := by decide +kernel
theorem dX4_greatest_13 : decode cX4_greatest 13 = .ok (.getstatic 37, 3) := by decide +kernel
theorem dX4_greatest_16 : decode cX4_greatest 16 = .ok (.aload_n 0, 1) := by decide +kernel
theorem dX4_greatest_17 : decode cX4_greatest 17 = .ok (.getfield 27, 3) := by decide +kernel
theorem dX4_greatest_20 : decode cX4_greatest 20 = .ok (.getfield 31, 3) := by decide +kernel
theorem dX4_greatest_23 : decode cX4_greatest 23 = .ok (.iaload, 1) := by decide +kernel
theorem dX4_greatest_24 : decode cX4_greatest 24 = .ok (.istore_n 3, 1) := by decide +kernel
theorem dX4_greatest_25 : decode cX4_greatest 25 = .ok (.aload_n 0, 1) := by decide +kernel
theorem dX4_greatest_26 : decode cX4_greatest 26 = .ok (.iload_n 3, 1) := by decide +kernel
theorem dX4_greatest_27 : decode cX4_greatest 27 = .ok (.invokevirtual 40, 3) := by decide +kernel
theorem dX4_greatest_30 : decode cX4_greatest 30 = .ok (.iconst 0, 1) := by decide +kernel
theorem dX4_greatest_31 : decode cX4_greatest 31 = .ok (.istore 4, 2) := by decide +kernel
theorem dX4_greatest_33 : decode cX4_greatest 33 = .ok (.iload 4, 2) := by decide +kernel
theorem dX4_greatest_35 : decode cX4_greatest 35 = .ok (.iload_n 3, 1) := by decide +kernel
theorem dX4_greatest_36 : decode cX4_greatest 36 = .ok (.if_icmp .ge 38, 3) := by decide +kernel
theorem dX4_greatest_39 : decode cX4_greatest 39 = .ok (.aload_n 0, 1) := by decide +kernel
theorem dX4_greatest_40 : decode cX4_greatest 40 = .ok (.getfield 21, 3) := by decide +kernel
theorem dX4_greatest_43 : decode cX4_greatest 43 = .ok (.iload 4, 2) := by decide +kernel
theorem dX4_greatest_45 : decode cX4_greatest 45 = .ok (.aload_n 0, 1) := by decide +kernel
theorem dX4_greatest_46 : decode cX4_greatest 46 = .ok (.aload_n 1, 1) := by decide +kernel
theorem dX4_greatest_47 : decode cX4_greatest 47 = .ok (.iconst 0, 1) := by decide +kernel
theorem dX4_greatest_48 : decode cX4_greatest 48 = .ok (.iload 4, 2) := by decide +kernel
theorem dX4_greatest_50 : decode cX4_greatest 50 = .ok (.invokevirtual 44, 3) := by decide +kernel
theorem dX4_greatest_53 : decode cX4_greatest 53 = .ok (.ifCond .eq 13, 3) := by decide +kernel
theorem dX4_greatest_56 : decode cX4_greatest 56 = .ok (.aload_n 0, 1) := by decide +kernel
theorem dX4_greatest_57 : decode cX4_greatest 57 = .ok (.getfield 18, 3) := by decide +kernel
theorem dX4_greatest_60 : decode cX4_greatest 60 = .ok (.iload 4, 2) := by decide +kernel
theorem dX4_greatest_62 : decode cX4_greatest 62 = .ok (.iaload, 1) := by decide +kernel
theorem dX4_greatest_63 : decode cX4_greatest 63 = .ok (.goto 4, 3) := by decide +kernel
theorem dX4_greatest_66 : decode cX4_greatest 66 = .ok (.iconst (-1), 1) := by decide +kernel
theorem dX4_greatest_67 : decode cX4_greatest 67 = .ok (.iastore, 1) := by decide +kernel
theorem dX4_greatest_68 : decode cX4_greatest 68 = .ok (.iinc 4 1, 3) := by decide +kernel
theorem dX4_greatest_71 : decode cX4_greatest 71 = .ok (.goto (-38), 3) := by decide +kernel
theorem dX4_greatest_74 : decode cX4_greatest 74 = .ok (.iconst 1, 1) := by decide +kernel
theorem dX4_greatest_75 : decode cX4_greatest 75 = .ok (.istore 4, 2) := by decide +kernel
theorem dX4_greatest_77 : decode cX4_greatest 77 = .ok (.iload 4, 2) := by decide +kernel
theorem dX4_greatest_79 : decode cX4_greatest 79 = .ok (.iload_n 2, 1) := by decide +kernel
theorem dX4_greatest_80 : decode cX4_greatest 80 = .ok (.if_icmp .ge 14, 3) := by decide +kernel
theorem dX4_greatest_83 : decode cX4_greatest 83 = .ok (.aload_n 0, 1) := by decide +kernel
theorem dX4_greatest_84 : decode cX4_greatest 84 = .ok (.iload_n 3, 1) := by decide +kernel
theorem dX4_greatest_85 : decode cX4_greatest 85 = .ok (.invokevirtual 48, 3) := by decide +kernel
theorem dX4_greatest_88 : decode cX4_greatest 88 = .ok (.iinc 4 1, 3) := by decide +kernel
theorem dX4_greatest_91 : decode cX4_greatest 91 = .ok (.goto (-14), 3) := by decide +kernel
theorem dX4_greatest_94 : decode cX4_greatest 94 = .ok (.iconst (-1), 1) := by decide +kernel
theorem dX4_greatest_95 : decode cX4_greatest 95 = .ok (.istore 4, 2) := by decide +kernel
theorem dX4_greatest_97 : decode cX4_greatest 97 = .ok (.iconst 0, 1) := by decide +kernel
theorem dX4_greatest_98 : decode cX4_greatest 98 = .ok (.istore 5, 2) := by decide +kernel
theorem dX4_greatest_100 : decode cX4_greatest 100 = .ok (.iload 5, 2) := by decide +kernel
theorem dX4_greatest_102 : decode cX4_greatest 102 = .ok (.iload_n 3, 1) := by decide +kernel
theorem dX4_greatest_103 : decode cX4_greatest 103 = .ok (.if_icmp .ge 23, 3) := by decide +kernel
theorem dX4_greatest_106 : decode cX4_greatest 106 = .ok (.iload 4, 2) := by decide +kernel
theorem dX4_greatest_108 : decode cX4_greatest 108 = .ok (.aload_n 0, 1) := by decide +kernel
theorem dX4_greatest_109 : decode cX4_greatest 109 = .ok (.getfield 21, 3) := by decide +kernel
theorem dX4_greatest_112 : decode cX4_greatest 112 = .ok (.iload 5, 2) := by decide +kernel
theorem dX4_greatest_114 : decode cX4_greatest 114 = .ok (.iaload, 1) := by decide +kernel
theorem dX4_greatest_115 : decode cX4_greatest 115 = .ok (.invokestatic 51, 3) := by decide +kernel
theorem dX4_greatest_118 : decode cX4_greatest 118 = .ok (.istore 4, 2) := by decide +kernel
theorem dX4_greatest_120 : decode cX4_greatest 120 = .ok (.iinc 5 1, 3) := by decide +kernel
theorem dX4_greatest_123 : decode cX4_greatest 123 = .ok (.goto (-23), 3) := by decide +kernel
theorem dX4_greatest_126 : decode cX4_greatest 126 = .ok (.iload 4, 2) := by decide +kernel
theorem dX4_greatest_128 : decode cX4_greatest 128 = .ok (.ireturn, 1) := by decide +kernel
theorem dX4_layRows_0 : decode cX4_layRows 0 = .ok (.iconst 0, 1) := by decide +kernel
theorem dX4_layRows_1 : decode cX4_layRows 1 = .ok (.istore_n 2, 1) := by decide +kernel
theorem dX4_layRows_2 : decode cX4_layRows 2 = .ok (.iload_n 2, 1) := by decide +kernel
theorem dX4_layRows_3 : decode cX4_layRows 3 = .ok (.iload_n 1, 1) := by decide +kernel
theorem dX4_layRows_4 : decode cX4_layRows 4 = .ok (.if_icmp .ge 119, 3) := by decide +kernel
theorem dX4_layRows_7 : decode cX4_layRows 7 = .ok (.aload_n 0, 1) := by decide +kernel
theorem dX4_layRows_8 : decode cX4_layRows 8 = .ok (.getfield 9, 3) := by decide +kernel
theorem dX4_layRows_11 : decode cX4_layRows 11 = .ok (.aload_n 0, 1) := by decide +kernel
theorem dX4_layRows_12 : decode cX4_layRows 12 = .ok (.getfield 27, 3) := by decide +kernel
theorem dX4_layRows_15 : decode cX4_layRows 15 = .ok (.getfield 31, 3) := by decide +kernel
theorem dX4_layRows_18 : decode cX4_layRows 18 = .ok (.iload_n 2, 1) := by decide +kernel
theorem dX4_layRows_19 : decode cX4_layRows 19 = .ok (.invokestatic 57, 3) := by decide +kernel
theorem dX4_layRows_22 : decode cX4_layRows 22 = .ok (.iconst 1, 1) := by decide +kernel
theorem dX4_layRows_23 : decode cX4_layRows 23 = .ok (.istore_n 3, 1) := by decide +kernel
theorem dX4_layRows_24 : decode cX4_layRows 24 = .ok (.iconst 0, 1) := by decide +kernel
theorem dX4_layRows_25 : decode cX4_layRows 25 = .ok (.istore 4, 2) := by decide +kernel
theorem dX4_layRows_27 : decode cX4_layRows 27 = .ok (.iload 4, 2) := by decide +kernel
theorem dX4_layRows_29 : decode cX4_layRows 29 = .ok (.aload_n 0, 1) := by decide +kernel
theorem dX4_layRows_30 : decode cX4_layRows 30 = .ok (.getfield 27, 3) := by decide +kernel
theorem dX4_layRows_33 : decode cX4_layRows 33 = .ok (.getfield 31, 3) := by decide +kernel
theorem dX4_layRows_36 : decode cX4_layRows 36 = .ok (.if_icmp .ge 56, 3) := by decide +kernel
theorem dX4_layRows_39 : decode cX4_layRows 39 = .ok (.aload_n 0, 1) := by decide +kernel
theorem dX4_layRows_40 : decode cX4_layRows 40 = .ok (.getfield 15, 3) := by decide +kernel
theorem dX4_layRows_43 : decode cX4_layRows 43 = .ok (.iload_n 2, 1) := by decide +kernel
theorem dX4_layRows_44 : decode cX4_layRows 44 = .ok (.iconst 5, 1) := by decide +kernel
theorem dX4_layRows_45 : decode cX4_layRows 45 = .ok (.imul, 1) := by decide +kernel
theorem dX4_layRows_46 : decode cX4_layRows 46 = .ok (.iload 4, 2) := by decide +kernel
