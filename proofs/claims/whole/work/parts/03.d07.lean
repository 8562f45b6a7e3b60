theorem dX10_plain_3 : decode cX10_plain 3 = .ok (.bipush 49, 2) := by decide +kernel
theorem dX10_plain_5 : decode cX10_plain 5 = .ok (.if_icmp .ge 23, 3) := by decide +kernel
theorem dX10_plain_8 : decode cX10_plain 8 = .ok (.aload_n 0, 1) := by decide +kernel
theorem dX10_plain_9 : decode cX10_plain 9 = .ok (.getfield 16, 3) := by decide +kernel
theorem dX10_plain_12 : decode cX10_plain 12 = .ok (.iload_n 1, 1) := by decide +kernel
theorem dX10_plain_13 : decode cX10_plain 13 = .ok (.iconst 5, 1) := by decide +kernel
theorem dX10_plain_14 : decode cX10_plain 14 = .ok (.iastore, 1) := by decide +kernel
theorem dX10_plain_15 : decode cX10_plain 15 = .ok (.aload_n 0, 1) := by decide +kernel
theorem dX10_plain_16 : decode cX10_plain 16 = .ok (.getfield 20, 3) := by decide +kernel
theorem dX10_plain_19 : decode cX10_plain 19 = .ok (.iload_n 1, 1) := by decide +kernel
theorem dX10_plain_20 : decode cX10_plain 20 = .ok (.iconst 5, 1) := by decide +kernel
theorem dX10_plain_21 : decode cX10_plain 21 = .ok (.iastore, 1) := by decide +kernel
theorem dX10_plain_22 : decode cX10_plain 22 = .ok (.iinc 1 1, 3) := by decide +kernel
theorem dX10_plain_25 : decode cX10_plain 25 = .ok (.goto (-23), 3) := by decide +kernel
theorem dX10_plain_28 : decode cX10_plain 28 = .ok (.iconst 0, 1) := by decide +kernel
theorem dX10_plain_29 : decode cX10_plain 29 = .ok (.istore_n 1, 1) := by decide +kernel
theorem dX10_plain_30 : decode cX10_plain 30 = .ok (.iload_n 1, 1) := by decide +kernel
theorem dX10_plain_31 : decode cX10_plain 31 = .ok (.bipush 7, 2) := by decide +kernel
theorem dX10_plain_33 : decode cX10_plain 33 = .ok (.if_icmp .ge 23, 3) := by decide +kernel
theorem dX10_plain_36 : decode cX10_plain 36 = .ok (.aload_n 0, 1) := by decide +kernel
theorem dX10_plain_37 : decode cX10_plain 37 = .ok (.getfield 23, 3) := by decide +kernel
theorem dX10_plain_40 : decode cX10_plain 40 = .ok (.iload_n 1, 1) := by decide +kernel
theorem dX10_plain_41 : decode cX10_plain 41 = .ok (.iconst 0, 1) := by decide +kernel
theorem dX10_plain_42 : decode cX10_plain 42 = .ok (.iastore, 1) := by decide +kernel
theorem dX10_plain_43 : decode cX10_plain 43 = .ok (.aload_n 0, 1) := by decide +kernel
theorem dX10_plain_44 : decode cX10_plain 44 = .ok (.getfield 26, 3) := by decide +kernel
theorem dX10_plain_47 : decode cX10_plain 47 = .ok (.iload_n 1, 1) := by decide +kernel
theorem dX10_plain_48 : decode cX10_plain 48 = .ok (.iconst (-1), 1) := by decide +kernel
theorem dX10_plain_49 : decode cX10_plain 49 = .ok (.iastore, 1) := by decide +kernel
theorem dX10_plain_50 : decode cX10_plain 50 = .ok (.iinc 1 1, 3) := by decide +kernel
theorem dX10_plain_53 : decode cX10_plain 53 = .ok (.goto (-23), 3) := by decide +kernel
theorem dX10_plain_56 : decode cX10_plain 56 = .ok (.aload_n 0, 1) := by decide +kernel
theorem dX10_plain_57 : decode cX10_plain 57 = .ok (.iconst 3, 1) := by decide +kernel
theorem dX10_plain_58 : decode cX10_plain 58 = .ok (.putfield 13, 3) := by decide +kernel
theorem dX10_plain_61 : decode cX10_plain 61 = .ok (.return_, 1) := by decide +kernel
theorem dX10_begin_0 : decode cX10_begin 0 = .ok (.iconst 0, 1) := by decide +kernel
theorem dX10_begin_1 : decode cX10_begin 1 = .ok (.istore_n 1, 1) := by decide +kernel
theorem dX10_begin_2 : decode cX10_begin 2 = .ok (.iload_n 1, 1) := by decide +kernel
theorem dX10_begin_3 : decode cX10_begin 3 = .ok (.sipush 128, 3) := by decide +kernel
theorem dX10_begin_6 : decode cX10_begin 6 = .ok (.if_icmp .ge 16, 3) := by decide +kernel
theorem dX10_begin_9 : decode cX10_begin 9 = .ok (.aload_n 0, 1) := by decide +kernel
theorem dX10_begin_10 : decode cX10_begin 10 = .ok (.getfield 35, 3) := by decide +kernel
theorem dX10_begin_13 : decode cX10_begin 13 = .ok (.iload_n 1, 1) := by decide +kernel
theorem dX10_begin_14 : decode cX10_begin 14 = .ok (.iconst 0, 1) := by decide +kernel
theorem dX10_begin_15 : decode cX10_begin 15 = .ok (.iastore, 1) := by decide +kernel
theorem dX10_begin_16 : decode cX10_begin 16 = .ok (.iinc 1 1, 3) := by decide +kernel
theorem dX10_begin_19 : decode cX10_begin 19 = .ok (.goto (-17), 3) := by decide +kernel
theorem dX10_begin_22 : decode cX10_begin 22 = .ok (.iconst 0, 1) := by decide +kernel
theorem dX10_begin_23 : decode cX10_begin 23 = .ok (.istore_n 1, 1) := by decide +kernel
theorem dX10_begin_24 : decode cX10_begin 24 = .ok (.iload_n 1, 1) := by decide +kernel
theorem dX10_begin_25 : decode cX10_begin 25 = .ok (.bipush 7, 2) := by decide +kernel
theorem dX10_begin_27 : decode cX10_begin 27 = .ok (.if_icmp .ge 24, 3) := by decide +kernel
theorem dX10_begin_30 : decode cX10_begin 30 = .ok (.aload_n 0, 1) := by decide +kernel
theorem dX10_begin_31 : decode cX10_begin 31 = .ok (.getfield 35, 3) := by decide +kernel
theorem dX10_begin_34 : decode cX10_begin 34 = .ok (.bipush 8, 2) := by decide +kernel
theorem dX10_begin_36 : decode cX10_begin 36 = .ok (.iload_n 1, 1) := by decide +kernel
theorem dX10_begin_37 : decode cX10_begin 37 = .ok (.iadd, 1) := by decide +kernel
theorem dX10_begin_38 : decode cX10_begin 38 = .ok (.aload_n 0, 1) := by decide +kernel
theorem dX10_begin_39 : decode cX10_begin 39 = .ok (.getfield 26, 3) := by decide +kernel
theorem dX10_begin_42 : decode cX10_begin 42 = .ok (.iload_n 1, 1) := by decide +kernel
theorem dX10_begin_43 : decode cX10_begin 43 = .ok (.iaload, 1) := by decide +kernel
theorem dX10_begin_44 : decode cX10_begin 44 = .ok (.iastore, 1) := by decide +kernel
theorem dX10_begin_45 : decode cX10_begin 45 = .ok (.iinc 1 1, 3) := by decide +kernel
theorem dX10_begin_48 : decode cX10_begin 48 = .ok (.goto (-24), 3) := by decide +kernel
theorem dX10_begin_51 : decode cX10_begin 51 = .ok (.return_, 1) := by decide +kernel
theorem dX10_write_0 : decode cX10_write 0 = .ok (.iload_n 3, 1) := by decide +kernel
theorem dX10_write_1 : decode cX10_write 1 = .ok (.iconst 1, 1) := by decide +kernel
theorem dX10_write_2 : decode cX10_write 2 = .ok (.bipush 8, 2) := by decide +kernel
theorem dX10_write_4 : decode cX10_write 4 = .ok (.invokestatic 69, 3) := by decide +kernel
theorem dX10_write_7 : decode cX10_write 7 = .ok (.ifCond .ne 6, 3) := by decide +kernel
theorem dX10_write_10 : decode cX10_write 10 = .ok (.bipush (-3), 2) := by decide +kernel
theorem dX10_write_12 : decode cX10_write 12 = .ok (.ireturn, 1) := by decide +kernel
theorem dX10_write_13 : decode cX10_write 13 = .ok (.aload_n 0, 1) := by decide +kernel
theorem dX10_write_14 : decode cX10_write 14 = .ok (.getfield 73, 3) := by decide +kernel
theorem dX10_write_17 : decode cX10_write 17 = .ok (.iload_n 3, 1) := by decide +kernel
theorem dX10_write_18 : decode cX10_write 18 = .ok (.iadd, 1) := by decide +kernel
theorem dX10_write_19 : decode cX10_write 19 = .ok (.sipush 200, 3) := by decide +kernel
theorem dX10_write_22 : decode cX10_write 22 = .ok (.if_icmp .le 6, 3) := by decide +kernel
theorem dX10_write_25 : decode cX10_write 25 = .ok (.bipush (-5), 2) := by decide +kernel
theorem dX10_write_27 : decode cX10_write 27 = .ok (.ireturn, 1) := by decide +kernel
theorem dX10_write_28 : decode cX10_write 28 = .ok (.iconst 0, 1) := by decide +kernel
theorem dX10_write_29 : decode cX10_write 29 = .ok (.istore 4, 2) := by decide +kernel
theorem dX10_write_31 : decode cX10_write 31 = .ok (.iload 4, 2) := by decide +kernel
theorem dX10_write_33 : decode cX10_write 33 = .ok (.iload_n 3, 1) := by decide +kernel
theorem dX10_write_34 : decode cX10_write 34 = .ok (.if_icmp .ge 33, 3) := by decide +kernel
theorem dX10_write_37 : decode cX10_write 37 = .ok (.aload_n 0, 1) := by decide +kernel
theorem dX10_write_38 : decode cX10_write 38 = .ok (.getfield 29, 3) := by decide +kernel
theorem dX10_write_41 : decode cX10_write 41 = .ok (.aload_n 0, 1) := by decide +kernel
theorem dX10_write_42 : decode cX10_write 42 = .ok (.getfield 73, 3) := by decide +kernel
theorem dX10_write_45 : decode cX10_write 45 = .ok (.iload 4, 2) := by decide +kernel
theorem dX10_write_47 : decode cX10_write 47 = .ok (.iadd, 1) := by decide +kernel
theorem dX10_write_48 : decode cX10_write 48 = .ok (.lload_n 1, 1) := by decide +kernel
theorem dX10_write_49 : decode cX10_write 49 = .ok (.bipush 8, 2) := by decide +kernel
theorem dX10_write_51 : decode cX10_write 51 = .ok (.iload 4, 2) := by decide +kernel
theorem dX10_write_53 : decode cX10_write 53 = .ok (.imul, 1) := by decide +kernel
theorem dX10_write_54 : decode cX10_write 54 = .ok (.lshr, 1) := by decide +kernel
theorem dX10_write_55 : decode cX10_write 55 = .ok (.ldc2_w 76, 3) := by decide +kernel
theorem dX10_write_58 : decode cX10_write 58 = .ok (.land, 1) := by decide +kernel
theorem dX10_write_59 : decode cX10_write 59 = .ok (.l2i, 1) := by decide +kernel
theorem dX10_write_60 : decode cX10_write 60 = .ok (.iastore, 1) := by decide +kernel
theorem dX10_write_61 : decode cX10_write 61 = .ok (.iinc 4 1, 3) := by decide +kernel
theorem dX10_write_64 : decode cX10_write 64 = .ok (.goto (-33), 3) := by decide +kernel
theorem dX10_write_67 : decode cX10_write 67 = .ok (.aload_n 0, 1) := by decide +kernel
theorem dX10_write_68 : decode cX10_write 68 = .ok (.dup, 1) := by decide +kernel
theorem dX10_write_69 : decode cX10_write 69 = .ok (.getfield 73, 3) := by decide +kernel
theorem dX10_write_72 : decode cX10_write 72 = .ok (.iload_n 3, 1) := by decide +kernel
theorem dX10_write_73 : decode cX10_write 73 = .ok (.iadd, 1) := by decide +kernel
theorem dX10_write_74 : decode cX10_write 74 = .ok (.putfield 73, 3) := by decide +kernel
theorem dX10_write_77 : decode cX10_write 77 = .ok (.aload_n 0, 1) := by decide +kernel
theorem dX10_write_78 : decode cX10_write 78 = .ok (.getfield 73, 3) := by decide +kernel
theorem dX10_write_81 : decode cX10_write 81 = .ok (.ireturn, 1) := by decide +kernel
theorem dX10_erase_0 : decode cX10_erase 0 = .ok (.aload_n 0, 1) := by decide +kernel
theorem dX10_erase_1 : decode cX10_erase 1 = .ok (.getfield 73, 3) := by decide +kernel
theorem dX10_erase_4 : decode cX10_erase 4 = .ok (.istore_n 1, 1) := by decide +kernel
theorem dX10_erase_5 : decode cX10_erase 5 = .ok (.aload_n 0, 1) := by decide +kernel
theorem dX10_erase_6 : decode cX10_erase 6 = .ok (.iconst 0, 1) := by decide +kernel
theorem dX10_erase_7 : decode cX10_erase 7 = .ok (.putfield 73, 3) := by decide +kernel
theorem dX10_erase_10 : decode cX10_erase 10 = .ok (.iload_n 1, 1) := by decide +kernel
theorem dX10_erase_11 : decode cX10_erase 11 = .ok (.ireturn, 1) := by decide +kernel
theorem dX10_nextToken_0 : decode cX10_nextToken 0 = .ok (.aload_n 0, 1) := by decide +kernel
theorem dX10_nextToken_1 : decode cX10_nextToken 1 = .ok (.getfield 78, 3) := by decide +kernel
theorem dX10_nextToken_4 : decode cX10_nextToken 4 = .ok (.aload_n 0, 1) := by decide +kernel
theorem dX10_nextToken_5 : decode cX10_nextToken 5 = .ok (.getfield 73, 3) := by decide +kernel
theorem dX10_nextToken_8 : decode cX10_nextToken 8 = .ok (.if_icmp .ge 30, 3) := by decide +kernel
theorem dX10_nextToken_11 : decode cX10_nextToken 11 = .ok (.aload_n 0, 1) := by decide +kernel
theorem dX10_nextToken_12 : decode cX10_nextToken 12 = .ok (.getfield 29, 3) := by decide +kernel
theorem dX10_nextToken_15 : decode cX10_nextToken 15 = .ok (.aload_n 0, 1) := by decide +kernel
theorem dX10_nextToken_16 : decode cX10_nextToken 16 = .ok (.getfield 78, 3) := by decide +kernel
theorem dX10_nextToken_19 : decode cX10_nextToken 19 = .ok (.iaload, 1) := by decide +kernel
theorem dX10_nextToken_20 : decode cX10_nextToken 20 = .ok (.bipush 32, 2) := by decide +kernel
theorem dX10_nextToken_22 : decode cX10_nextToken 22 = .ok (.if_icmp .ne 16, 3) := by decide +kernel
theorem dX10_nextToken_25 : decode cX10_nextToken 25 = .ok (.aload_n 0, 1) := by decide +kernel
theorem dX10_nextToken_26 : decode cX10_nextToken 26 = .ok (.dup, 1) := by decide +kernel
theorem dX10_nextToken_27 : decode cX10_nextToken 27 = .ok (.getfield 78, 3) := by decide +kernel
theorem dX10_nextToken_30 : decode cX10_nextToken 30 = .ok (.iconst 1, 1) := by decide +kernel
theorem dX10_nextToken_31 : decode cX10_nextToken 31 = .ok (.iadd, 1) := by decide +kernel
theorem dX10_nextToken_32 : decode cX10_nextToken 32 = .ok (.putfield 78, 3) := by decide +kernel
theorem dX10_nextToken_35 : decode cX10_nextToken 35 = .ok (.goto (-35), 3) := by decide +kernel
theorem dX10_nextToken_38 : decode cX10_nextToken 38 = .ok (.aload_n 0, 1) := by decide +kernel
theorem dX10_nextToken_39 : decode cX10_nextToken 39 = .ok (.aload_n 0, 1) := by decide +kernel
theorem dX10_nextToken_40 : decode cX10_nextToken 40 = .ok (.getfield 78, 3) := by decide +kernel
theorem dX10_nextToken_43 : decode cX10_nextToken 43 = .ok (.putfield 81, 3) := by decide +kernel
theorem dX10_nextToken_46 : decode cX10_nextToken 46 = .ok (.aload_n 0, 1) := by decide +kernel
theorem dX10_nextToken_47 : decode cX10_nextToken 47 = .ok (.iconst 0, 1) := by decide +kernel
theorem dX10_nextToken_48 : decode cX10_nextToken 48 = .ok (.putfield 84, 3) := by decide +kernel
theorem dX10_nextToken_51 : decode cX10_nextToken 51 = .ok (.aload_n 0, 1) := by decide +kernel
theorem dX10_nextToken_52 : decode cX10_nextToken 52 = .ok (.iconst 0, 1) := by decide +kernel
theorem dX10_nextToken_53 : decode cX10_nextToken 53 = .ok (.putfield 87, 3) := by decide +kernel
theorem dX10_nextToken_56 : decode cX10_nextToken 56 = .ok (.aload_n 0, 1) := by decide +kernel
theorem dX10_nextToken_57 : decode cX10_nextToken 57 = .ok (.getfield 78, 3) := by decide +kernel
theorem dX10_nextToken_60 : decode cX10_nextToken 60 = .ok (.aload_n 0, 1) := by decide +kernel
theorem dX10_nextToken_61 : decode cX10_nextToken 61 = .ok (.getfield 73, 3) := by decide +kernel
theorem dX10_nextToken_64 : decode cX10_nextToken 64 = .ok (.if_icmp .ne 13, 3) := by decide +kernel
theorem dX10_nextToken_67 : decode cX10_nextToken 67 = .ok (.aload_n 0, 1) := by decide +kernel
theorem dX10_nextToken_68 : decode cX10_nextToken 68 = .ok (.ldc2_w 90, 3) := by decide +kernel
theorem dX10_nextToken_71 : decode cX10_nextToken 71 = .ok (.putfield 92, 3) := by decide +kernel
theorem dX10_nextToken_74 : decode cX10_nextToken 74 = .ok (.goto 320, 3) := by decide +kernel
theorem dX10_nextToken_77 : decode cX10_nextToken 77 = .ok (.aload_n 0, 1) := by decide +kernel
theorem dX10_nextToken_78 : decode cX10_nextToken 78 = .ok (.getfield 29, 3) := by decide +kernel
theorem dX10_nextToken_81 : decode cX10_nextToken 81 = .ok (.aload_n 0, 1) := by decide +kernel
theorem dX10_nextToken_82 : decode cX10_nextToken 82 = .ok (.getfield 78, 3) := by decide +kernel
theorem dX10_nextToken_85 : decode cX10_nextToken 85 = .ok (.iaload, 1) := by decide +kernel
theorem dX10_nextToken_86 : decode cX10_nextToken 86 = .ok (.bipush 97, 2) := by decide +kernel
theorem dX10_nextToken_88 : decode cX10_nextToken 88 = .ok (.bipush 122, 2) := by decide +kernel
theorem dX10_nextToken_90 : decode cX10_nextToken 90 = .ok (.invokestatic 69, 3) := by decide +kernel
theorem dX10_nextToken_93 : decode cX10_nextToken 93 = .ok (.ifCond .eq 129, 3) := by decide +kernel
theorem dX10_nextToken_96 : decode cX10_nextToken 96 = .ok (.aload_n 0, 1) := by decide +kernel
theorem dX10_nextToken_97 : decode cX10_nextToken 97 = .ok (.lconst 0, 1) := by decide +kernel
theorem dX10_nextToken_98 : decode cX10_nextToken 98 = .ok (.putfield 92, 3) := by decide +kernel
theorem dX10_nextToken_101 : decode cX10_nextToken 101 = .ok (.aload_n 0, 1) := by decide +kernel
theorem dX10_nextToken_102 : decode cX10_nextToken 102 = .ok (.getfield 78, 3) := by decide +kernel
theorem dX10_nextToken_105 : decode cX10_nextToken 105 = .ok (.aload_n 0, 1) := by decide +kernel
theorem dX10_nextToken_106 : decode cX10_nextToken 106 = .ok (.getfield 73, 3) := by decide +kernel
theorem dX10_nextToken_109 : decode cX10_nextToken 109 = .ok (.if_icmp .ge 82, 3) := by decide +kernel
theorem dX10_nextToken_112 : decode cX10_nextToken 112 = .ok (.aload_n 0, 1) := by decide +kernel
theorem dX10_nextToken_113 : decode cX10_nextToken 113 = .ok (.getfield 29, 3) := by decide +kernel
theorem dX10_nextToken_116 : decode cX10_nextToken 116 = .ok (.aload_n 0, 1) := by decide +kernel
theorem dX10_nextToken_117 : decode cX10_nextToken 117 = .ok (.getfield 78, 3) := by decide +kernel
theorem dX10_nextToken_120 : decode cX10_nextToken 120 = .ok (.iaload, 1) := by decide +kernel
theorem dX10_nextToken_121 : decode cX10_nextToken 121 = .ok (.bipush 97, 2) := by decide +kernel
theorem dX10_nextToken_123 : decode cX10_nextToken 123 = .ok (.bipush 122, 2) := by decide +kernel
theorem dX10_nextToken_125 : decode cX10_nextToken 125 = .ok (.invokestatic 69, 3) := by decide +kernel
theorem dX10_nextToken_128 : decode cX10_nextToken 128 = .ok (.ifCond .eq 63, 3) := by decide +kernel
theorem dX10_nextToken_131 : decode cX10_nextToken 131 = .ok (.aload_n 0, 1) := by decide +kernel
theorem dX10_nextToken_132 : decode cX10_nextToken 132 = .ok (.aload_n 0, 1) := by decide +kernel
theorem dX10_nextToken_133 : decode cX10_nextToken 133 = .ok (.getfield 78, 3) := by decide +kernel
theorem dX10_nextToken_136 : decode cX10_nextToken 136 = .ok (.aload_n 0, 1) := by decide +kernel
theorem dX10_nextToken_137 : decode cX10_nextToken 137 = .ok (.getfield 81, 3) := by decide +kernel
theorem dX10_nextToken_140 : decode cX10_nextToken 140 = .ok (.isub, 1) := by decide +kernel
theorem dX10_nextToken_141 : decode cX10_nextToken 141 = .ok (.bipush 9, 2) := by decide +kernel
theorem dX10_nextToken_143 : decode cX10_nextToken 143 = .ok (.if_icmp .ge 29, 3) := by decide +kernel
theorem dX10_nextToken_146 : decode cX10_nextToken 146 = .ok (.ldc2_w 96, 3) := by decide +kernel
theorem dX10_nextToken_149 : decode cX10_nextToken 149 = .ok (.aload_n 0, 1) := by decide +kernel
theorem dX10_nextToken_150 : decode cX10_nextToken 150 = .ok (.getfield 92, 3) := by decide +kernel
theorem dX10_nextToken_153 : decode cX10_nextToken 153 = .ok (.lmul, 1) := by decide +kernel
theorem dX10_nextToken_154 : decode cX10_nextToken 154 = .ok (.aload_n 0, 1) := by decide +kernel
theorem dX10_nextToken_155 : decode cX10_nextToken 155 = .ok (.getfield 29, 3) := by decide +kernel
theorem dX10_nextToken_158 : decode cX10_nextToken 158 = .ok (.aload_n 0, 1) := by decide +kernel
theorem dX10_nextToken_159 : decode cX10_nextToken 159 = .ok (.getfield 78, 3) := by decide +kernel
theorem dX10_nextToken_162 : decode cX10_nextToken 162 = .ok (.iaload, 1) := by decide +kernel
theorem dX10_nextToken_163 : decode cX10_nextToken 163 = .ok (.i2l, 1) := by decide +kernel
theorem dX10_nextToken_164 : decode cX10_nextToken 164 = .ok (.ladd, 1) := by decide +kernel
theorem dX10_nextToken_165 : decode cX10_nextToken 165 = .ok (.ldc2_w 98, 3) := by decide +kernel
theorem dX10_nextToken_168 : decode cX10_nextToken 168 = .ok (.lsub, 1) := by decide +kernel
theorem dX10_nextToken_169 : decode cX10_nextToken 169 = .ok (.goto 6, 3) := by decide +kernel
theorem dX10_nextToken_172 : decode cX10_nextToken 172 = .ok (.ldc2_w 100, 3) := by decide +kernel
theorem dX10_nextToken_175 : decode cX10_nextToken 175 = .ok (.putfield 92, 3) := by decide +kernel
theorem dX10_nextToken_178 : decode cX10_nextToken 178 = .ok (.aload_n 0, 1) := by decide +kernel
theorem dX10_nextToken_179 : decode cX10_nextToken 179 = .ok (.dup, 1) := by decide +kernel
theorem dX10_nextToken_180 : decode cX10_nextToken 180 = .ok (.getfield 78, 3) := by decide +kernel
theorem dX10_nextToken_183 : decode cX10_nextToken 183 = .ok (.iconst 1, 1) := by decide +kernel
theorem dX10_nextToken_184 : decode cX10_nextToken 184 = .ok (.iadd, 1) := by decide +kernel
theorem dX10_nextToken_185 : decode cX10_nextToken 185 = .ok (.putfield 78, 3) := by decide +kernel
theorem dX10_nextToken_188 : decode cX10_nextToken 188 = .ok (.goto (-87), 3) := by decide +kernel
theorem dX10_nextToken_191 : decode cX10_nextToken 191 = .ok (.aload_n 0, 1) := by decide +kernel
theorem dX10_nextToken_192 : decode cX10_nextToken 192 = .ok (.aload_n 0, 1) := by decide +kernel
theorem dX10_nextToken_193 : decode cX10_nextToken 193 = .ok (.getfield 78, 3) := by decide +kernel
theorem dX10_nextToken_196 : decode cX10_nextToken 196 = .ok (.aload_n 0, 1) := by decide +kernel
theorem dX10_nextToken_197 : decode cX10_nextToken 197 = .ok (.getfield 81, 3) := by decide +kernel
theorem dX10_nextToken_200 : decode cX10_nextToken 200 = .ok (.isub, 1) := by decide +kernel
theorem dX10_nextToken_201 : decode cX10_nextToken 201 = .ok (.bipush 9, 2) := by decide +kernel
theorem dX10_nextToken_203 : decode cX10_nextToken 203 = .ok (.if_icmp .le 9, 3) := by decide +kernel
theorem dX10_nextToken_206 : decode cX10_nextToken 206 = .ok (.ldc2_w 100, 3) := by decide +kernel
theorem dX10_nextToken_209 : decode cX10_nextToken 209 = .ok (.goto 7, 3) := by decide +kernel
theorem dX10_nextToken_212 : decode cX10_nextToken 212 = .ok (.aload_n 0, 1) := by decide +kernel
theorem dX10_nextToken_213 : decode cX10_nextToken 213 = .ok (.getfield 92, 3) := by decide +kernel
theorem dX10_nextToken_216 : decode cX10_nextToken 216 = .ok (.putfield 92, 3) := by decide +kernel
theorem dX10_nextToken_219 : decode cX10_nextToken 219 = .ok (.goto 175, 3) := by decide +kernel
theorem dX10_nextToken_222 : decode cX10_nextToken 222 = .ok (.aload_n 0, 1) := by decide +kernel
theorem dX10_nextToken_223 : decode cX10_nextToken 223 = .ok (.getfield 29, 3) := by decide +kernel
theorem dX10_nextToken_226 : decode cX10_nextToken 226 = .ok (.aload_n 0, 1) := by decide +kernel
theorem dX10_nextToken_227 : decode cX10_nextToken 227 = .ok (.getfield 78, 3) := by decide +kernel
theorem dX10_nextToken_230 : decode cX10_nextToken 230 = .ok (.iaload, 1) := by decide +kernel
theorem dX10_nextToken_231 : decode cX10_nextToken 231 = .ok (.bipush 48, 2) := by decide +kernel
theorem dX10_nextToken_233 : decode cX10_nextToken 233 = .ok (.bipush 57, 2) := by decide +kernel
theorem dX10_nextToken_235 : decode cX10_nextToken 235 = .ok (.invokestatic 69, 3) := by decide +kernel
theorem dX10_nextToken_238 : decode cX10_nextToken 238 = .ok (.ifCond .eq 119, 3) := by decide +kernel
theorem dX10_nextToken_241 : decode cX10_nextToken 241 = .ok (.aload_n 0, 1) := by decide +kernel
theorem dX10_nextToken_242 : decode cX10_nextToken 242 = .ok (.getfield 78, 3) := by decide +kernel
theorem dX10_nextToken_245 : decode cX10_nextToken 245 = .ok (.aload_n 0, 1) := by decide +kernel
theorem dX10_nextToken_246 : decode cX10_nextToken 246 = .ok (.getfield 73, 3) := by decide +kernel
theorem dX10_nextToken_249 : decode cX10_nextToken 249 = .ok (.if_icmp .ge 84, 3) := by decide +kernel
theorem dX10_nextToken_252 : decode cX10_nextToken 252 = .ok (.aload_n 0, 1) := by decide +kernel
theorem dX10_nextToken_253 : decode cX10_nextToken 253 = .ok (.getfield 29, 3) := by decide +kernel
theorem dX10_nextToken_256 : decode cX10_nextToken 256 = .ok (.aload_n 0, 1) := by decide +kernel
theorem dX10_nextToken_257 : decode cX10_nextToken 257 = .ok (.getfield 78, 3) := by decide +kernel
theorem dX10_nextToken_260 : decode cX10_nextToken 260 = .ok (.iaload, 1) := by decide +kernel
theorem dX10_nextToken_261 : decode cX10_nextToken 261 = .ok (.bipush 48, 2) := by decide +kernel
theorem dX10_nextToken_263 : decode cX10_nextToken 263 = .ok (.bipush 57, 2) := by decide +kernel
theorem dX10_nextToken_265 : decode cX10_nextToken 265 = .ok (.invokestatic 69, 3) := by decide +kernel
theorem dX10_nextToken_268 : decode cX10_nextToken 268 = .ok (.ifCond .eq 65, 3) := by decide +kernel
theorem dX10_nextToken_271 : decode cX10_nextToken 271 = .ok (.aload_n 0, 1) := by decide +kernel
theorem dX10_nextToken_272 : decode cX10_nextToken 272 = .ok (.aload_n 0, 1) := by decide +kernel
theorem dX10_nextToken_273 : decode cX10_nextToken 273 = .ok (.getfield 84, 3) := by decide +kernel
theorem dX10_nextToken_276 : decode cX10_nextToken 276 = .ok (.iconst 2, 1) := by decide +kernel
theorem dX10_nextToken_277 : decode cX10_nextToken 277 = .ok (.if_icmp .ge 26, 3) := by decide +kernel
theorem dX10_nextToken_280 : decode cX10_nextToken 280 = .ok (.bipush 10, 2) := by decide +kernel
theorem dX10_nextToken_282 : decode cX10_nextToken 282 = .ok (.aload_n 0, 1) := by decide +kernel
theorem dX10_nextToken_283 : decode cX10_nextToken 283 = .ok (.getfield 87, 3) := by decide +kernel
theorem dX10_nextToken_286 : decode cX10_nextToken 286 = .ok (.imul, 1) := by decide +kernel
theorem dX10_nextToken_287 : decode cX10_nextToken 287 = .ok (.aload_n 0, 1) := by decide +kernel
theorem dX10_nextToken_288 : decode cX10_nextToken 288 = .ok (.getfield 29, 3) := by decide +kernel
theorem dX10_nextToken_291 : decode cX10_nextToken 291 = .ok (.aload_n 0, 1) := by decide +kernel
theorem dX10_nextToken_292 : decode cX10_nextToken 292 = .ok (.getfield 78, 3) := by decide +kernel
theorem dX10_nextToken_295 : decode cX10_nextToken 295 = .ok (.iaload, 1) := by decide +kernel
theorem dX10_nextToken_296 : decode cX10_nextToken 296 = .ok (.iadd, 1) := by decide +kernel
theorem dX10_nextToken_297 : decode cX10_nextToken 297 = .ok (.bipush 48, 2) := by decide +kernel
theorem dX10_nextToken_299 : decode cX10_nextToken 299 = .ok (.isub, 1) := by decide +kernel
theorem dX10_nextToken_300 : decode cX10_nextToken 300 = .ok (.goto 7, 3) := by decide +kernel
theorem dX10_nextToken_303 : decode cX10_nextToken 303 = .ok (.aload_n 0, 1) := by decide +kernel
theorem dX10_nextToken_304 : decode cX10_nextToken 304 = .ok (.getfield 87, 3) := by decide +kernel
theorem dX10_nextToken_307 : decode cX10_nextToken 307 = .ok (.putfield 87, 3) := by decide +kernel
theorem dX10_nextToken_310 : decode cX10_nextToken 310 = .ok (.aload_n 0, 1) := by decide +kernel
theorem dX10_nextToken_311 : decode cX10_nextToken 311 = .ok (.dup, 1) := by decide +kernel
theorem dX10_nextToken_312 : decode cX10_nextToken 312 = .ok (.getfield 84, 3) := by decide +kernel
theorem dX10_nextToken_315 : decode cX10_nextToken 315 = .ok (.iconst 1, 1) := by decide +kernel
theorem dX10_nextToken_316 : decode cX10_nextToken 316 = .ok (.iadd, 1) := by decide +kernel
theorem dX10_nextToken_317 : decode cX10_nextToken 317 = .ok (.putfield 84, 3) := by decide +kernel
theorem dX10_nextToken_320 : decode cX10_nextToken 320 = .ok (.aload_n 0, 1) := by decide +kernel
theorem dX10_nextToken_321 : decode cX10_nextToken 321 = .ok (.dup, 1) := by decide +kernel
theorem dX10_nextToken_322 : decode cX10_nextToken 322 = .ok (.getfield 78, 3) := by decide +kernel
theorem dX10_nextToken_325 : decode cX10_nextToken 325 = .ok (.iconst 1, 1) := by decide +kernel
theorem dX10_nextToken_326 : decode cX10_nextToken 326 = .ok (.iadd, 1) := by decide +kernel
theorem dX10_nextToken_327 : decode cX10_nextToken 327 = .ok (.putfield 78, 3) := by decide +kernel
theorem dX10_nextToken_330 : decode cX10_nextToken 330 = .ok (.goto (-89), 3) := by decide +kernel
theorem dX10_nextToken_333 : decode cX10_nextToken 333 = .ok (.aload_n 0, 1) := by decide +kernel
theorem dX10_nextToken_334 : decode cX10_nextToken 334 = .ok (.aload_n 0, 1) := by decide +kernel
theorem dX10_nextToken_335 : decode cX10_nextToken 335 = .ok (.getfield 84, 3) := by decide +kernel
theorem dX10_nextToken_338 : decode cX10_nextToken 338 = .ok (.iconst 2, 1) := by decide +kernel
theorem dX10_nextToken_339 : decode cX10_nextToken 339 = .ok (.if_icmp .le 9, 3) := by decide +kernel
theorem dX10_nextToken_342 : decode cX10_nextToken 342 = .ok (.ldc2_w 100, 3) := by decide +kernel
theorem dX10_nextToken_345 : decode cX10_nextToken 345 = .ok (.goto 6, 3) := by decide +kernel
theorem dX10_nextToken_348 : decode cX10_nextToken 348 = .ok (.ldc2_w 102, 3) := by decide +kernel
theorem dX10_nextToken_351 : decode cX10_nextToken 351 = .ok (.putfield 92, 3) := by decide +kernel
theorem dX10_nextToken_354 : decode cX10_nextToken 354 = .ok (.goto 40, 3) := by decide +kernel
theorem dX10_nextToken_357 : decode cX10_nextToken 357 = .ok (.aload_n 0, 1) := by decide +kernel
theorem dX10_nextToken_358 : decode cX10_nextToken 358 = .ok (.aload_n 0, 1) := by decide +kernel
theorem dX10_nextToken_359 : decode cX10_nextToken 359 = .ok (.getfield 29, 3) := by decide +kernel
theorem dX10_nextToken_362 : decode cX10_nextToken 362 = .ok (.aload_n 0, 1) := by decide +kernel
theorem dX10_nextToken_363 : decode cX10_nextToken 363 = .ok (.getfield 78, 3) := by decide +kernel
theorem dX10_nextToken_366 : decode cX10_nextToken 366 = .ok (.iaload, 1) := by decide +kernel
theorem dX10_nextToken_367 : decode cX10_nextToken 367 = .ok (.bipush 59, 2) := by decide +kernel
theorem dX10_nextToken_369 : decode cX10_nextToken 369 = .ok (.if_icmp .ne 9, 3) := by decide +kernel
theorem dX10_nextToken_372 : decode cX10_nextToken 372 = .ok (.ldc2_w 104, 3) := by decide +kernel
theorem dX10_nextToken_375 : decode cX10_nextToken 375 = .ok (.goto 6, 3) := by decide +kernel
theorem dX10_nextToken_378 : decode cX10_nextToken 378 = .ok (.ldc2_w 100, 3) := by decide +kernel
theorem dX10_nextToken_381 : decode cX10_nextToken 381 = .ok (.putfield 92, 3) := by decide +kernel
theorem dX10_nextToken_384 : decode cX10_nextToken 384 = .ok (.aload_n 0, 1) := by decide +kernel
theorem dX10_nextToken_385 : decode cX10_nextToken 385 = .ok (.dup, 1) := by decide +kernel
theorem dX10_nextToken_386 : decode cX10_nextToken 386 = .ok (.getfield 78, 3) := by decide +kernel
theorem dX10_nextToken_389 : decode cX10_nextToken 389 = .ok (.iconst 1, 1) := by decide +kernel
theorem dX10_nextToken_390 : decode cX10_nextToken 390 = .ok (.iadd, 1) := by decide +kernel
theorem dX10_nextToken_391 : decode cX10_nextToken 391 = .ok (.putfield 78, 3) := by decide +kernel
theorem dX10_nextToken_394 : decode cX10_nextToken 394 = .ok (.return_, 1) := by decide +kernel
theorem dX10_fails_0 : decode cX10_fails 0 = .ok (.aload_n 0, 1) := by decide +kernel
theorem dX10_fails_1 : decode cX10_fails 1 = .ok (.aload_n 0, 1) := by decide +kernel
theorem dX10_fails_2 : decode cX10_fails 2 = .ok (.getfield 81, 3) := by decide +kernel
theorem dX10_fails_5 : decode cX10_fails 5 = .ok (.putfield 106, 3) := by decide +kernel
theorem dX10_fails_8 : decode cX10_fails 8 = .ok (.iconst 0, 1) := by decide +kernel
theorem dX10_fails_9 : decode cX10_fails 9 = .ok (.ireturn, 1) := by decide +kernel
theorem dX10_isNumber_0 : decode cX10_isNumber 0 = .ok (.aload_n 0, 1) := by decide +kernel
theorem dX10_isNumber_1 : decode cX10_isNumber 1 = .ok (.invokevirtual 109, 3) := by decide +kernel
theorem dX10_isNumber_4 : decode cX10_isNumber 4 = .ok (.aload_n 0, 1) := by decide +kernel
theorem dX10_isNumber_5 : decode cX10_isNumber 5 = .ok (.getfield 92, 3) := by decide +kernel
theorem dX10_isNumber_8 : decode cX10_isNumber 8 = .ok (.ldc2_w 102, 3) := by decide +kernel
theorem dX10_isNumber_11 : decode cX10_isNumber 11 = .ok (.lcmp, 1) := by decide +kernel
theorem dX10_isNumber_12 : decode cX10_isNumber 12 = .ok (.ifCond .ne 15, 3) := by decide +kernel
theorem dX10_isNumber_15 : decode cX10_isNumber 15 = .ok (.aload_n 0, 1) := by decide +kernel
theorem dX10_isNumber_16 : decode cX10_isNumber 16 = .ok (.getfield 87, 3) := by decide +kernel
theorem dX10_isNumber_19 : decode cX10_isNumber 19 = .ok (.iload_n 2, 1) := by decide +kernel
theorem dX10_isNumber_20 : decode cX10_isNumber 20 = .ok (.iload_n 3, 1) := by decide +kernel
theorem dX10_isNumber_21 : decode cX10_isNumber 21 = .ok (.invokestatic 69, 3) := by decide +kernel
theorem dX10_isNumber_24 : decode cX10_isNumber 24 = .ok (.ifCond .ne 8, 3) := by decide +kernel
theorem dX10_isNumber_27 : decode cX10_isNumber 27 = .ok (.aload_n 0, 1) := by decide +kernel
theorem dX10_isNumber_28 : decode cX10_isNumber 28 = .ok (.invokevirtual 112, 3) := by decide +kernel
theorem dX10_isNumber_31 : decode cX10_isNumber 31 = .ok (.ireturn, 1) := by decide +kernel
theorem dX10_isNumber_32 : decode cX10_isNumber 32 = .ok (.aload_n 0, 1) := by decide +kernel
theorem dX10_isNumber_33 : decode cX10_isNumber 33 = .ok (.getfield 32, 3) := by decide +kernel
theorem dX10_isNumber_36 : decode cX10_isNumber 36 = .ok (.iload_n 1, 1) := by decide +kernel
theorem dX10_isNumber_37 : decode cX10_isNumber 37 = .ok (.aload_n 0, 1) := by decide +kernel
theorem dX10_isNumber_38 : decode cX10_isNumber 38 = .ok (.getfield 87, 3) := by decide +kernel
theorem dX10_isNumber_41 : decode cX10_isNumber 41 = .ok (.iastore, 1) := by decide +kernel
theorem dX10_isNumber_42 : decode cX10_isNumber 42 = .ok (.iconst 1, 1) := by decide +kernel
theorem dX10_isNumber_43 : decode cX10_isNumber 43 = .ok (.ireturn, 1) := by decide +kernel
theorem dX10_isThere_0 : decode cX10_isThere 0 = .ok (.aload_n 0, 1) := by decide +kernel
theorem dX10_isThere_1 : decode cX10_isThere 1 = .ok (.iload_n 1, 1) := by decide +kernel
theorem dX10_isThere_2 : decode cX10_isThere 2 = .ok (.iconst 0, 1) := by decide +kernel
theorem dX10_isThere_3 : decode cX10_isThere 3 = .ok (.aload_n 0, 1) := by decide +kernel
theorem dX10_isThere_4 : decode cX10_isThere 4 = .ok (.getfield 116, 3) := by decide +kernel
theorem dX10_isThere_7 : decode cX10_isThere 7 = .ok (.iconst 1, 1) := by decide +kernel
theorem dX10_isThere_8 : decode cX10_isThere 8 = .ok (.isub, 1) := by decide +kernel
theorem dX10_isThere_9 : decode cX10_isThere 9 = .ok (.invokevirtual 119, 3) := by decide +kernel
theorem dX10_isThere_12 : decode cX10_isThere 12 = .ok (.ireturn, 1) := by decide +kernel
theorem dX10_isHall_0 : decode cX10_isHall 0 = .ok (.aload_n 0, 1) := by decide +kernel
theorem dX10_isHall_1 : decode cX10_isHall 1 = .ok (.iload_n 1, 1) := by decide +kernel
theorem dX10_isHall_2 : decode cX10_isHall 2 = .ok (.iconst 1, 1) := by decide +kernel
theorem dX10_isHall_3 : decode cX10_isHall 3 = .ok (.iadd, 1) := by decide +kernel
theorem dX10_isHall_4 : decode cX10_isHall 4 = .ok (.iconst 2, 1) := by decide +kernel
theorem dX10_isHall_5 : decode cX10_isHall 5 = .ok (.bipush 7, 2) := by decide +kernel
theorem dX10_isHall_7 : decode cX10_isHall 7 = .ok (.invokevirtual 119, 3) := by decide +kernel
theorem dX10_isHall_10 : decode cX10_isHall 10 = .ok (.ifCond .ne 5, 3) := by decide +kernel
theorem dX10_isHall_13 : decode cX10_isHall 13 = .ok (.iconst 0, 1) := by decide +kernel
theorem dX10_isHall_14 : decode cX10_isHall 14 = .ok (.ireturn, 1) := by decide +kernel
theorem dX10_isHall_15 : decode cX10_isHall 15 = .ok (.aload_n 0, 1) := by decide +kernel
theorem dX10_isHall_16 : decode cX10_isHall 16 = .ok (.aload_n 0, 1) := by decide +kernel
theorem dX10_isHall_17 : decode cX10_isHall 17 = .ok (.getfield 32, 3) := by decide +kernel
theorem dX10_isHall_20 : decode cX10_isHall 20 = .ok (.iload_n 1, 1) := by decide +kernel
theorem dX10_isHall_21 : decode cX10_isHall 21 = .ok (.iconst 1, 1) := by decide +kernel
theorem dX10_isHall_22 : decode cX10_isHall 22 = .ok (.iadd, 1) := by decide +kernel
theorem dX10_isHall_23 : decode cX10_isHall 23 = .ok (.iaload, 1) := by decide +kernel
theorem dX10_isHall_24 : decode cX10_isHall 24 = .ok (.putfield 116, 3) := by decide +kernel
theorem dX10_isHall_27 : decode cX10_isHall 27 = .ok (.iconst 1, 1) := by decide +kernel
theorem dX10_isHall_28 : decode cX10_isHall 28 = .ok (.ireturn, 1) := by decide +kernel
theorem dX10_isRing_0 : decode cX10_isRing 0 = .ok (.aload_n 0, 1) := by decide +kernel
theorem dX10_isRing_1 : decode cX10_isRing 1 = .ok (.iload_n 1, 1) := by decide +kernel
theorem dX10_isRing_2 : decode cX10_isRing 2 = .ok (.iconst 1, 1) := by decide +kernel
theorem dX10_isRing_3 : decode cX10_isRing 3 = .ok (.iadd, 1) := by decide +kernel
theorem dX10_isRing_4 : decode cX10_isRing 4 = .ok (.iconst 0, 1) := by decide +kernel
theorem dX10_isRing_5 : decode cX10_isRing 5 = .ok (.iconst 3, 1) := by decide +kernel
theorem dX10_isRing_6 : decode cX10_isRing 6 = .ok (.invokevirtual 119, 3) := by decide +kernel
theorem dX10_isRing_9 : decode cX10_isRing 9 = .ok (.ifCond .ne 5, 3) := by decide +kernel
theorem dX10_isRing_12 : decode cX10_isRing 12 = .ok (.iconst 0, 1) := by decide +kernel
theorem dX10_isRing_13 : decode cX10_isRing 13 = .ok (.ireturn, 1) := by decide +kernel
theorem dX10_isRing_14 : decode cX10_isRing 14 = .ok (.aload_n 0, 1) := by decide +kernel
theorem dX10_isRing_15 : decode cX10_isRing 15 = .ok (.getfield 32, 3) := by decide +kernel
theorem dX10_isRing_18 : decode cX10_isRing 18 = .ok (.iload_n 1, 1) := by decide +kernel
theorem dX10_isRing_19 : decode cX10_isRing 19 = .ok (.iconst 1, 1) := by decide +kernel
theorem dX10_isRing_20 : decode cX10_isRing 20 = .ok (.iadd, 1) := by decide +kernel
theorem dX10_isRing_21 : decode cX10_isRing 21 = .ok (.iaload, 1) := by decide +kernel
theorem dX10_isRing_22 : decode cX10_isRing 22 = .ok (.iconst 1, 1) := by decide +kernel
theorem dX10_isRing_23 : decode cX10_isRing 23 = .ok (.if_icmp .ne 10, 3) := by decide +kernel
theorem dX10_isRing_26 : decode cX10_isRing 26 = .ok (.aload_n 0, 1) := by decide +kernel
theorem dX10_isRing_27 : decode cX10_isRing 27 = .ok (.invokevirtual 112, 3) := by decide +kernel
theorem dX10_isRing_30 : decode cX10_isRing 30 = .ok (.ifCond .eq 7, 3) := by decide +kernel
theorem dX10_isRing_33 : decode cX10_isRing 33 = .ok (.iconst 1, 1) := by decide +kernel
theorem dX10_isRing_34 : decode cX10_isRing 34 = .ok (.goto 4, 3) := by decide +kernel
theorem dX10_isRing_37 : decode cX10_isRing 37 = .ok (.iconst 0, 1) := by decide +kernel
theorem dX10_isRing_38 : decode cX10_isRing 38 = .ok (.ireturn, 1) := by decide +kernel
theorem dX10_isLine_0 : decode cX10_isLine 0 = .ok (.aload_n 0, 1) := by decide +kernel
theorem dX10_isLine_1 : decode cX10_isLine 1 = .ok (.invokevirtual 109, 3) := by decide +kernel
theorem dX10_isLine_4 : decode cX10_isLine 4 = .ok (.aload_n 0, 1) := by decide +kernel
theorem dX10_isLine_5 : decode cX10_isLine 5 = .ok (.getfield 92, 3) := by decide +kernel
theorem dX10_isLine_8 : decode cX10_isLine 8 = .ok (.ldc2_w 122, 3) := by decide +kernel
theorem dX10_isLine_11 : decode cX10_isLine 11 = .ok (.lcmp, 1) := by decide +kernel
theorem dX10_isLine_12 : decode cX10_isLine 12 = .ok (.ifCond .ne 7, 3) := by decide +kernel
theorem dX10_isLine_15 : decode cX10_isLine 15 = .ok (.iconst 0, 1) := by decide +kernel
theorem dX10_isLine_16 : decode cX10_isLine 16 = .ok (.goto 64, 3) := by decide +kernel
theorem dX10_isLine_19 : decode cX10_isLine 19 = .ok (.aload_n 0, 1) := by decide +kernel
theorem dX10_isLine_20 : decode cX10_isLine 20 = .ok (.getfield 92, 3) := by decide +kernel
theorem dX10_isLine_23 : decode cX10_isLine 23 = .ok (.ldc2_w 124, 3) := by decide +kernel
theorem dX10_isLine_26 : decode cX10_isLine 26 = .ok (.lcmp, 1) := by decide +kernel
theorem dX10_isLine_27 : decode cX10_isLine 27 = .ok (.ifCond .ne 7, 3) := by decide +kernel
theorem dX10_isLine_30 : decode cX10_isLine 30 = .ok (.iconst 1, 1) := by decide +kernel
theorem dX10_isLine_31 : decode cX10_isLine 31 = .ok (.goto 49, 3) := by decide +kernel
theorem dX10_isLine_34 : decode cX10_isLine 34 = .ok (.aload_n 0, 1) := by decide +kernel
theorem dX10_isLine_35 : decode cX10_isLine 35 = .ok (.getfield 92, 3) := by decide +kernel
theorem dX10_isLine_38 : decode cX10_isLine 38 = .ok (.ldc2_w 126, 3) := by decide +kernel
theorem dX10_isLine_41 : decode cX10_isLine 41 = .ok (.lcmp, 1) := by decide +kernel
theorem dX10_isLine_42 : decode cX10_isLine 42 = .ok (.ifCond .ne 7, 3) := by decide +kernel
theorem dX10_isLine_45 : decode cX10_isLine 45 = .ok (.iconst 2, 1) := by decide +kernel
theorem dX10_isLine_46 : decode cX10_isLine 46 = .ok (.goto 34, 3) := by decide +kernel
theorem dX10_isLine_49 : decode cX10_isLine 49 = .ok (.aload_n 0, 1) := by decide +kernel
theorem dX10_isLine_50 : decode cX10_isLine 50 = .ok (.getfield 92, 3) := by decide +kernel
theorem dX10_isLine_53 : decode cX10_isLine 53 = .ok (.ldc2_w 128, 3) := by decide +kernel
theorem dX10_isLine_56 : decode cX10_isLine 56 = .ok (.lcmp, 1) := by decide +kernel
theorem dX10_isLine_57 : decode cX10_isLine 57 = .ok (.ifCond .ne 7, 3) := by decide +kernel
theorem dX10_isLine_60 : decode cX10_isLine 60 = .ok (.iconst 3, 1) := by decide +kernel
theorem dX10_isLine_61 : decode cX10_isLine 61 = .ok (.goto 19, 3) := by decide +kernel
theorem dX10_isLine_64 : decode cX10_isLine 64 = .ok (.aload_n 0, 1) := by decide +kernel
theorem dX10_isLine_65 : decode cX10_isLine 65 = .ok (.getfield 92, 3) := by decide +kernel
theorem dX10_isLine_68 : decode cX10_isLine 68 = .ok (.ldc2_w 130, 3) := by decide +kernel
theorem dX10_isLine_71 : decode cX10_isLine 71 = .ok (.lcmp, 1) := by decide +kernel
theorem dX10_isLine_72 : decode cX10_isLine 72 = .ok (.ifCond .ne 7, 3) := by decide +kernel
theorem dX10_isLine_75 : decode cX10_isLine 75 = .ok (.iconst 4, 1) := by decide +kernel
theorem dX10_isLine_76 : decode cX10_isLine 76 = .ok (.goto 4, 3) := by decide +kernel
theorem dX10_isLine_79 : decode cX10_isLine 79 = .ok (.iconst (-1), 1) := by decide +kernel
theorem dX10_isLine_80 : decode cX10_isLine 80 = .ok (.istore_n 2, 1) := by decide +kernel
theorem dX10_isLine_81 : decode cX10_isLine 81 = .ok (.aload_n 0, 1) := by decide +kernel
theorem dX10_isLine_82 : decode cX10_isLine 82 = .ok (.getfield 92, 3) := by decide +kernel
theorem dX10_isLine_85 : decode cX10_isLine 85 = .ok (.ldc2_w 132, 3) := by decide +kernel
theorem dX10_isLine_88 : decode cX10_isLine 88 = .ok (.lcmp, 1) := by decide +kernel
theorem dX10_isLine_89 : decode cX10_isLine 89 = .ok (.ifCond .ne 7, 3) := by decide +kernel
theorem dX10_isLine_92 : decode cX10_isLine 92 = .ok (.iconst 5, 1) := by decide +kernel
theorem dX10_isLine_93 : decode cX10_isLine 93 = .ok (.goto 52, 3) := by decide +kernel
theorem dX10_isLine_96 : decode cX10_isLine 96 = .ok (.aload_n 0, 1) := by decide +kernel
theorem dX10_isLine_97 : decode cX10_isLine 97 = .ok (.getfield 92, 3) := by decide +kernel
theorem dX10_isLine_100 : decode cX10_isLine 100 = .ok (.ldc2_w 134, 3) := by decide +kernel
theorem dX10_isLine_103 : decode cX10_isLine 103 = .ok (.lcmp, 1) := by decide +kernel
theorem dX10_isLine_104 : decode cX10_isLine 104 = .ok (.ifCond .ne 8, 3) := by decide +kernel
theorem dX10_isLine_107 : decode cX10_isLine 107 = .ok (.bipush 6, 2) := by decide +kernel
theorem dX10_isLine_109 : decode cX10_isLine 109 = .ok (.goto 36, 3) := by decide +kernel
theorem dX10_isLine_112 : decode cX10_isLine 112 = .ok (.aload_n 0, 1) := by decide +kernel
theorem dX10_isLine_113 : decode cX10_isLine 113 = .ok (.getfield 92, 3) := by decide +kernel
theorem dX10_isLine_116 : decode cX10_isLine 116 = .ok (.ldc2_w 136, 3) := by decide +kernel
theorem dX10_isLine_119 : decode cX10_isLine 119 = .ok (.lcmp, 1) := by decide +kernel
theorem dX10_isLine_120 : decode cX10_isLine 120 = .ok (.ifCond .ne 8, 3) := by decide +kernel
theorem dX10_isLine_123 : decode cX10_isLine 123 = .ok (.bipush 7, 2) := by decide +kernel
theorem dX10_isLine_125 : decode cX10_isLine 125 = .ok (.goto 20, 3) := by decide +kernel
theorem dX10_isLine_128 : decode cX10_isLine 128 = .ok (.aload_n 0, 1) := by decide +kernel
theorem dX10_isLine_129 : decode cX10_isLine 129 = .ok (.getfield 92, 3) := by decide +kernel
theorem dX10_isLine_132 : decode cX10_isLine 132 = .ok (.ldc2_w 138, 3) := by decide +kernel
theorem dX10_isLine_135 : decode cX10_isLine 135 = .ok (.lcmp, 1) := by decide +kernel
theorem dX10_isLine_136 : decode cX10_isLine 136 = .ok (.ifCond .ne 8, 3) := by decide +kernel
theorem dX10_isLine_139 : decode cX10_isLine 139 = .ok (.bipush 8, 2) := by decide +kernel
theorem dX10_isLine_141 : decode cX10_isLine 141 = .ok (.goto 4, 3) := by decide +kernel
theorem dX10_isLine_144 : decode cX10_isLine 144 = .ok (.iconst (-1), 1) := by decide +kernel
theorem dX10_isLine_145 : decode cX10_isLine 145 = .ok (.istore_n 3, 1) := by decide +kernel
theorem dX10_isLine_146 : decode cX10_isLine 146 = .ok (.aload_n 0, 1) := by decide +kernel
theorem dX10_isLine_147 : decode cX10_isLine 147 = .ok (.getfield 32, 3) := by decide +kernel
theorem dX10_isLine_150 : decode cX10_isLine 150 = .ok (.iload_n 1, 1) := by decide +kernel
theorem dX10_isLine_151 : decode cX10_isLine 151 = .ok (.iload_n 2, 1) := by decide +kernel
theorem dX10_isLine_152 : decode cX10_isLine 152 = .ok (.iconst (-1), 1) := by decide +kernel
theorem dX10_isLine_153 : decode cX10_isLine 153 = .ok (.if_icmp .ne 7, 3) := by decide +kernel
theorem dX10_isLine_156 : decode cX10_isLine 156 = .ok (.iload_n 3, 1) := by decide +kernel
theorem dX10_isLine_157 : decode cX10_isLine 157 = .ok (.goto 4, 3) := by decide +kernel
theorem dX10_isLine_160 : decode cX10_isLine 160 = .ok (.iload_n 2, 1) := by decide +kernel
theorem dX10_isLine_161 : decode cX10_isLine 161 = .ok (.iastore, 1) := by decide +kernel
theorem dX10_isLine_162 : decode cX10_isLine 162 = .ok (.aload_n 0, 1) := by decide +kernel
theorem dX10_isLine_163 : decode cX10_isLine 163 = .ok (.getfield 32, 3) := by decide +kernel
theorem dX10_isLine_166 : decode cX10_isLine 166 = .ok (.iload_n 1, 1) := by decide +kernel
theorem dX10_isLine_167 : decode cX10_isLine 167 = .ok (.iaload, 1) := by decide +kernel
theorem dX10_isLine_168 : decode cX10_isLine 168 = .ok (.tableswitch 137 0 8 #[52, 58, 58, 97, 123, 129, 129, 129, 129], 52) := by decide +kernel
theorem dX10_isLine_220 : decode cX10_isLine 220 = .ok (.aload_n 0, 1) := by decide +kernel
theorem dX10_isLine_221 : decode cX10_isLine 221 = .ok (.iload_n 1, 1) := by decide +kernel
theorem dX10_isLine_222 : decode cX10_isLine 222 = .ok (.invokevirtual 140, 3) := by decide +kernel
theorem dX10_isLine_225 : decode cX10_isLine 225 = .ok (.ireturn, 1) := by decide +kernel
theorem dX10_isLine_226 : decode cX10_isLine 226 = .ok (.aload_n 0, 1) := by decide +kernel
theorem dX10_isLine_227 : decode cX10_isLine 227 = .ok (.iload_n 1, 1) := by decide +kernel
theorem dX10_isLine_228 : decode cX10_isLine 228 = .ok (.iconst 1, 1) := by decide +kernel
theorem dX10_isLine_229 : decode cX10_isLine 229 = .ok (.iadd, 1) := by decide +kernel
theorem dX10_isLine_230 : decode cX10_isLine 230 = .ok (.invokevirtual 144, 3) := by decide +kernel
theorem dX10_isLine_233 : decode cX10_isLine 233 = .ok (.ifCond .eq 30, 3) := by decide +kernel
theorem dX10_isLine_236 : decode cX10_isLine 236 = .ok (.aload_n 0, 1) := by decide +kernel
theorem dX10_isLine_237 : decode cX10_isLine 237 = .ok (.iload_n 1, 1) := by decide +kernel
theorem dX10_isLine_238 : decode cX10_isLine 238 = .ok (.iconst 2, 1) := by decide +kernel
theorem dX10_isLine_239 : decode cX10_isLine 239 = .ok (.iadd, 1) := by decide +kernel
theorem dX10_isLine_240 : decode cX10_isLine 240 = .ok (.invokevirtual 144, 3) := by decide +kernel
theorem dX10_isLine_243 : decode cX10_isLine 243 = .ok (.ifCond .eq 20, 3) := by decide +kernel
theorem dX10_isLine_246 : decode cX10_isLine 246 = .ok (.aload_n 0, 1) := by decide +kernel
theorem dX10_isLine_247 : decode cX10_isLine 247 = .ok (.iload_n 1, 1) := by decide +kernel
