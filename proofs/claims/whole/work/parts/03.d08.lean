theorem dX10_isLine_248 : decode cX10_isLine 248 = .ok (.iconst 3, 1) := by decide +kernel
theorem dX10_isLine_249 : decode cX10_isLine 249 = .ok (.iadd, 1) := by decide +kernel
theorem dX10_isLine_250 : decode cX10_isLine 250 = .ok (.iconst 0, 1) := by decide +kernel
theorem dX10_isLine_251 : decode cX10_isLine 251 = .ok (.bipush 9, 2) := by decide +kernel
theorem dX10_isLine_253 : decode cX10_isLine 253 = .ok (.invokevirtual 119, 3) := by decide +kernel
theorem dX10_isLine_256 : decode cX10_isLine 256 = .ok (.ifCond .eq 7, 3) := by decide +kernel
theorem dX10_isLine_259 : decode cX10_isLine 259 = .ok (.iconst 1, 1) := by decide +kernel
theorem dX10_isLine_260 : decode cX10_isLine 260 = .ok (.goto 4, 3) := by decide +kernel
theorem dX10_isLine_263 : decode cX10_isLine 263 = .ok (.iconst 0, 1) := by decide +kernel
theorem dX10_isLine_264 : decode cX10_isLine 264 = .ok (.ireturn, 1) := by decide +kernel
theorem dX10_isLine_265 : decode cX10_isLine 265 = .ok (.aload_n 0, 1) := by decide +kernel
theorem dX10_isLine_266 : decode cX10_isLine 266 = .ok (.iload_n 1, 1) := by decide +kernel
theorem dX10_isLine_267 : decode cX10_isLine 267 = .ok (.iconst 1, 1) := by decide +kernel
theorem dX10_isLine_268 : decode cX10_isLine 268 = .ok (.iadd, 1) := by decide +kernel
theorem dX10_isLine_269 : decode cX10_isLine 269 = .ok (.invokevirtual 144, 3) := by decide +kernel
theorem dX10_isLine_272 : decode cX10_isLine 272 = .ok (.ifCond .eq 17, 3) := by decide +kernel
theorem dX10_isLine_275 : decode cX10_isLine 275 = .ok (.aload_n 0, 1) := by decide +kernel
theorem dX10_isLine_276 : decode cX10_isLine 276 = .ok (.iload_n 1, 1) := by decide +kernel
theorem dX10_isLine_277 : decode cX10_isLine 277 = .ok (.iconst 2, 1) := by decide +kernel
theorem dX10_isLine_278 : decode cX10_isLine 278 = .ok (.iadd, 1) := by decide +kernel
theorem dX10_isLine_279 : decode cX10_isLine 279 = .ok (.invokevirtual 144, 3) := by decide +kernel
theorem dX10_isLine_282 : decode cX10_isLine 282 = .ok (.ifCond .eq 7, 3) := by decide +kernel
theorem dX10_isLine_285 : decode cX10_isLine 285 = .ok (.iconst 1, 1) := by decide +kernel
theorem dX10_isLine_286 : decode cX10_isLine 286 = .ok (.goto 4, 3) := by decide +kernel
theorem dX10_isLine_289 : decode cX10_isLine 289 = .ok (.iconst 0, 1) := by decide +kernel
theorem dX10_isLine_290 : decode cX10_isLine 290 = .ok (.ireturn, 1) := by decide +kernel
theorem dX10_isLine_291 : decode cX10_isLine 291 = .ok (.aload_n 0, 1) := by decide +kernel
theorem dX10_isLine_292 : decode cX10_isLine 292 = .ok (.iload_n 1, 1) := by decide +kernel
theorem dX10_isLine_293 : decode cX10_isLine 293 = .ok (.invokevirtual 147, 3) := by decide +kernel
theorem dX10_isLine_296 : decode cX10_isLine 296 = .ok (.ireturn, 1) := by decide +kernel
theorem dX10_isLine_297 : decode cX10_isLine 297 = .ok (.aload_n 0, 1) := by decide +kernel
theorem dX10_isLine_298 : decode cX10_isLine 298 = .ok (.iload_n 1, 1) := by decide +kernel
theorem dX10_isLine_299 : decode cX10_isLine 299 = .ok (.iconst 1, 1) := by decide +kernel
theorem dX10_isLine_300 : decode cX10_isLine 300 = .ok (.iadd, 1) := by decide +kernel
theorem dX10_isLine_301 : decode cX10_isLine 301 = .ok (.invokevirtual 144, 3) := by decide +kernel
theorem dX10_isLine_304 : decode cX10_isLine 304 = .ok (.ireturn, 1) := by decide +kernel
theorem dX10_isLine_305 : decode cX10_isLine 305 = .ok (.aload_n 0, 1) := by decide +kernel
theorem dX10_isLine_306 : decode cX10_isLine 306 = .ok (.invokevirtual 112, 3) := by decide +kernel
theorem dX10_isLine_309 : decode cX10_isLine 309 = .ok (.ireturn, 1) := by decide +kernel
theorem dX10_isRead_0 : decode cX10_isRead 0 = .ok (.aload_n 0, 1) := by decide +kernel
theorem dX10_isRead_1 : decode cX10_isRead 1 = .ok (.iconst 0, 1) := by decide +kernel
theorem dX10_isRead_2 : decode cX10_isRead 2 = .ok (.putfield 78, 3) := by decide +kernel
theorem dX10_isRead_5 : decode cX10_isRead 5 = .ok (.aload_n 0, 1) := by decide +kernel
theorem dX10_isRead_6 : decode cX10_isRead 6 = .ok (.iconst 0, 1) := by decide +kernel
theorem dX10_isRead_7 : decode cX10_isRead 7 = .ok (.putfield 150, 3) := by decide +kernel
theorem dX10_isRead_10 : decode cX10_isRead 10 = .ok (.aload_n 0, 1) := by decide +kernel
theorem dX10_isRead_11 : decode cX10_isRead 11 = .ok (.aload_n 0, 1) := by decide +kernel
theorem dX10_isRead_12 : decode cX10_isRead 12 = .ok (.getfield 7, 3) := by decide +kernel
theorem dX10_isRead_15 : decode cX10_isRead 15 = .ok (.putfield 116, 3) := by decide +kernel
theorem dX10_isRead_18 : decode cX10_isRead 18 = .ok (.iconst 1, 1) := by decide +kernel
theorem dX10_isRead_19 : decode cX10_isRead 19 = .ok (.istore_n 1, 1) := by decide +kernel
theorem dX10_isRead_20 : decode cX10_isRead 20 = .ok (.iload_n 1, 1) := by decide +kernel
theorem dX10_isRead_21 : decode cX10_isRead 21 = .ok (.ifCond .eq 61, 3) := by decide +kernel
theorem dX10_isRead_24 : decode cX10_isRead 24 = .ok (.aload_n 0, 1) := by decide +kernel
theorem dX10_isRead_25 : decode cX10_isRead 25 = .ok (.iconst 4, 1) := by decide +kernel
theorem dX10_isRead_26 : decode cX10_isRead 26 = .ok (.aload_n 0, 1) := by decide +kernel
theorem dX10_isRead_27 : decode cX10_isRead 27 = .ok (.getfield 150, 3) := by decide +kernel
theorem dX10_isRead_30 : decode cX10_isRead 30 = .ok (.imul, 1) := by decide +kernel
theorem dX10_isRead_31 : decode cX10_isRead 31 = .ok (.invokevirtual 153, 3) := by decide +kernel
theorem dX10_isRead_34 : decode cX10_isRead 34 = .ok (.ifCond .ne 5, 3) := by decide +kernel
theorem dX10_isRead_37 : decode cX10_isRead 37 = .ok (.iconst 0, 1) := by decide +kernel
theorem dX10_isRead_38 : decode cX10_isRead 38 = .ok (.ireturn, 1) := by decide +kernel
theorem dX10_isRead_39 : decode cX10_isRead 39 = .ok (.aload_n 0, 1) := by decide +kernel
theorem dX10_isRead_40 : decode cX10_isRead 40 = .ok (.dup, 1) := by decide +kernel
theorem dX10_isRead_41 : decode cX10_isRead 41 = .ok (.getfield 150, 3) := by decide +kernel
theorem dX10_isRead_44 : decode cX10_isRead 44 = .ok (.iconst 1, 1) := by decide +kernel
theorem dX10_isRead_45 : decode cX10_isRead 45 = .ok (.iadd, 1) := by decide +kernel
theorem dX10_isRead_46 : decode cX10_isRead 46 = .ok (.putfield 150, 3) := by decide +kernel
theorem dX10_isRead_49 : decode cX10_isRead 49 = .ok (.aload_n 0, 1) := by decide +kernel
theorem dX10_isRead_50 : decode cX10_isRead 50 = .ok (.invokevirtual 109, 3) := by decide +kernel
theorem dX10_isRead_53 : decode cX10_isRead 53 = .ok (.aload_n 0, 1) := by decide +kernel
theorem dX10_isRead_54 : decode cX10_isRead 54 = .ok (.getfield 92, 3) := by decide +kernel
theorem dX10_isRead_57 : decode cX10_isRead 57 = .ok (.ldc2_w 104, 3) := by decide +kernel
theorem dX10_isRead_60 : decode cX10_isRead 60 = .ok (.lcmp, 1) := by decide +kernel
theorem dX10_isRead_61 : decode cX10_isRead 61 = .ok (.ifCond .ne 16, 3) := by decide +kernel
theorem dX10_isRead_64 : decode cX10_isRead 64 = .ok (.aload_n 0, 1) := by decide +kernel
theorem dX10_isRead_65 : decode cX10_isRead 65 = .ok (.getfield 150, 3) := by decide +kernel
theorem dX10_isRead_68 : decode cX10_isRead 68 = .ok (.bipush 14, 2) := by decide +kernel
theorem dX10_isRead_70 : decode cX10_isRead 70 = .ok (.if_icmp .ge 7, 3) := by decide +kernel
theorem dX10_isRead_73 : decode cX10_isRead 73 = .ok (.iconst 1, 1) := by decide +kernel
theorem dX10_isRead_74 : decode cX10_isRead 74 = .ok (.goto 4, 3) := by decide +kernel
theorem dX10_isRead_77 : decode cX10_isRead 77 = .ok (.iconst 0, 1) := by decide +kernel
theorem dX10_isRead_78 : decode cX10_isRead 78 = .ok (.istore_n 1, 1) := by decide +kernel
theorem dX10_isRead_79 : decode cX10_isRead 79 = .ok (.goto (-59), 3) := by decide +kernel
theorem dX10_isRead_82 : decode cX10_isRead 82 = .ok (.aload_n 0, 1) := by decide +kernel
theorem dX10_isRead_83 : decode cX10_isRead 83 = .ok (.getfield 92, 3) := by decide +kernel
theorem dX10_isRead_86 : decode cX10_isRead 86 = .ok (.ldc2_w 90, 3) := by decide +kernel
theorem dX10_isRead_89 : decode cX10_isRead 89 = .ok (.lcmp, 1) := by decide +kernel
theorem dX10_isRead_90 : decode cX10_isRead 90 = .ok (.ifCond .eq 10, 3) := by decide +kernel
theorem dX10_isRead_93 : decode cX10_isRead 93 = .ok (.aload_n 0, 1) := by decide +kernel
theorem dX10_isRead_94 : decode cX10_isRead 94 = .ok (.invokevirtual 112, 3) := by decide +kernel
theorem dX10_isRead_97 : decode cX10_isRead 97 = .ok (.ifCond .eq 7, 3) := by decide +kernel
theorem dX10_isRead_100 : decode cX10_isRead 100 = .ok (.iconst 1, 1) := by decide +kernel
theorem dX10_isRead_101 : decode cX10_isRead 101 = .ok (.goto 4, 3) := by decide +kernel
theorem dX10_isRead_104 : decode cX10_isRead 104 = .ok (.iconst 0, 1) := by decide +kernel
theorem dX10_isRead_105 : decode cX10_isRead 105 = .ok (.ireturn, 1) := by decide +kernel
theorem dX10_fault_0 : decode cX10_fault 0 = .ok (.aload_n 0, 1) := by decide +kernel
theorem dX10_fault_1 : decode cX10_fault 1 = .ok (.invokevirtual 156, 3) := by decide +kernel
theorem dX10_fault_4 : decode cX10_fault 4 = .ok (.ifCond .eq 7, 3) := by decide +kernel
theorem dX10_fault_7 : decode cX10_fault 7 = .ok (.iconst (-1), 1) := by decide +kernel
theorem dX10_fault_8 : decode cX10_fault 8 = .ok (.goto 7, 3) := by decide +kernel
theorem dX10_fault_11 : decode cX10_fault 11 = .ok (.aload_n 0, 1) := by decide +kernel
theorem dX10_fault_12 : decode cX10_fault 12 = .ok (.getfield 106, 3) := by decide +kernel
theorem dX10_fault_15 : decode cX10_fault 15 = .ok (.ireturn, 1) := by decide +kernel
theorem dX10_doLine_0 : decode cX10_doLine 0 = .ok (.aload_n 0, 1) := by decide +kernel
theorem dX10_doLine_1 : decode cX10_doLine 1 = .ok (.getfield 32, 3) := by decide +kernel
theorem dX10_doLine_4 : decode cX10_doLine 4 = .ok (.iload_n 1, 1) := by decide +kernel
theorem dX10_doLine_5 : decode cX10_doLine 5 = .ok (.iconst 1, 1) := by decide +kernel
theorem dX10_doLine_6 : decode cX10_doLine 6 = .ok (.iadd, 1) := by decide +kernel
theorem dX10_doLine_7 : decode cX10_doLine 7 = .ok (.iaload, 1) := by decide +kernel
theorem dX10_doLine_8 : decode cX10_doLine 8 = .ok (.istore_n 2, 1) := by decide +kernel
theorem dX10_doLine_9 : decode cX10_doLine 9 = .ok (.aload_n 0, 1) := by decide +kernel
theorem dX10_doLine_10 : decode cX10_doLine 10 = .ok (.getfield 32, 3) := by decide +kernel
theorem dX10_doLine_13 : decode cX10_doLine 13 = .ok (.iload_n 1, 1) := by decide +kernel
theorem dX10_doLine_14 : decode cX10_doLine 14 = .ok (.iaload, 1) := by decide +kernel
theorem dX10_doLine_15 : decode cX10_doLine 15 = .ok (.tableswitch 128 0 4 #[33, 45, 74, 103, 120], 33) := by decide +kernel
theorem dX10_doLine_48 : decode cX10_doLine 48 = .ok (.aload_n 0, 1) := by decide +kernel
theorem dX10_doLine_49 : decode cX10_doLine 49 = .ok (.invokevirtual 63, 3) := by decide +kernel
theorem dX10_doLine_52 : decode cX10_doLine 52 = .ok (.aload_n 0, 1) := by decide +kernel
theorem dX10_doLine_53 : decode cX10_doLine 53 = .ok (.iload_n 2, 1) := by decide +kernel
theorem dX10_doLine_54 : decode cX10_doLine 54 = .ok (.putfield 7, 3) := by decide +kernel
theorem dX10_doLine_57 : decode cX10_doLine 57 = .ok (.goto 100, 3) := by decide +kernel
theorem dX10_doLine_60 : decode cX10_doLine 60 = .ok (.aload_n 0, 1) := by decide +kernel
theorem dX10_doLine_61 : decode cX10_doLine 61 = .ok (.getfield 16, 3) := by decide +kernel
theorem dX10_doLine_64 : decode cX10_doLine 64 = .ok (.bipush 7, 2) := by decide +kernel
theorem dX10_doLine_66 : decode cX10_doLine 66 = .ok (.iload_n 2, 1) := by decide +kernel
theorem dX10_doLine_67 : decode cX10_doLine 67 = .ok (.imul, 1) := by decide +kernel
theorem dX10_doLine_68 : decode cX10_doLine 68 = .ok (.aload_n 0, 1) := by decide +kernel
theorem dX10_doLine_69 : decode cX10_doLine 69 = .ok (.getfield 32, 3) := by decide +kernel
theorem dX10_doLine_72 : decode cX10_doLine 72 = .ok (.iload_n 1, 1) := by decide +kernel
theorem dX10_doLine_73 : decode cX10_doLine 73 = .ok (.iconst 2, 1) := by decide +kernel
theorem dX10_doLine_74 : decode cX10_doLine 74 = .ok (.iadd, 1) := by decide +kernel
theorem dX10_doLine_75 : decode cX10_doLine 75 = .ok (.iaload, 1) := by decide +kernel
theorem dX10_doLine_76 : decode cX10_doLine 76 = .ok (.iadd, 1) := by decide +kernel
theorem dX10_doLine_77 : decode cX10_doLine 77 = .ok (.aload_n 0, 1) := by decide +kernel
theorem dX10_doLine_78 : decode cX10_doLine 78 = .ok (.getfield 32, 3) := by decide +kernel
theorem dX10_doLine_81 : decode cX10_doLine 81 = .ok (.iload_n 1, 1) := by decide +kernel
theorem dX10_doLine_82 : decode cX10_doLine 82 = .ok (.iconst 3, 1) := by decide +kernel
theorem dX10_doLine_83 : decode cX10_doLine 83 = .ok (.iadd, 1) := by decide +kernel
theorem dX10_doLine_84 : decode cX10_doLine 84 = .ok (.iaload, 1) := by decide +kernel
theorem dX10_doLine_85 : decode cX10_doLine 85 = .ok (.iastore, 1) := by decide +kernel
theorem dX10_doLine_86 : decode cX10_doLine 86 = .ok (.goto 71, 3) := by decide +kernel
theorem dX10_doLine_89 : decode cX10_doLine 89 = .ok (.aload_n 0, 1) := by decide +kernel
theorem dX10_doLine_90 : decode cX10_doLine 90 = .ok (.getfield 20, 3) := by decide +kernel
theorem dX10_doLine_93 : decode cX10_doLine 93 = .ok (.bipush 7, 2) := by decide +kernel
theorem dX10_doLine_95 : decode cX10_doLine 95 = .ok (.iload_n 2, 1) := by decide +kernel
theorem dX10_doLine_96 : decode cX10_doLine 96 = .ok (.imul, 1) := by decide +kernel
theorem dX10_doLine_97 : decode cX10_doLine 97 = .ok (.aload_n 0, 1) := by decide +kernel
theorem dX10_doLine_98 : decode cX10_doLine 98 = .ok (.getfield 32, 3) := by decide +kernel
theorem dX10_doLine_101 : decode cX10_doLine 101 = .ok (.iload_n 1, 1) := by decide +kernel
theorem dX10_doLine_102 : decode cX10_doLine 102 = .ok (.iconst 2, 1) := by decide +kernel
theorem dX10_doLine_103 : decode cX10_doLine 103 = .ok (.iadd, 1) := by decide +kernel
theorem dX10_doLine_104 : decode cX10_doLine 104 = .ok (.iaload, 1) := by decide +kernel
theorem dX10_doLine_105 : decode cX10_doLine 105 = .ok (.iadd, 1) := by decide +kernel
theorem dX10_doLine_106 : decode cX10_doLine 106 = .ok (.aload_n 0, 1) := by decide +kernel
theorem dX10_doLine_107 : decode cX10_doLine 107 = .ok (.getfield 32, 3) := by decide +kernel
theorem dX10_doLine_110 : decode cX10_doLine 110 = .ok (.iload_n 1, 1) := by decide +kernel
theorem dX10_doLine_111 : decode cX10_doLine 111 = .ok (.iconst 3, 1) := by decide +kernel
theorem dX10_doLine_112 : decode cX10_doLine 112 = .ok (.iadd, 1) := by decide +kernel
theorem dX10_doLine_113 : decode cX10_doLine 113 = .ok (.iaload, 1) := by decide +kernel
theorem dX10_doLine_114 : decode cX10_doLine 114 = .ok (.iastore, 1) := by decide +kernel
theorem dX10_doLine_115 : decode cX10_doLine 115 = .ok (.goto 42, 3) := by decide +kernel
theorem dX10_doLine_118 : decode cX10_doLine 118 = .ok (.aload_n 0, 1) := by decide +kernel
theorem dX10_doLine_119 : decode cX10_doLine 119 = .ok (.getfield 26, 3) := by decide +kernel
theorem dX10_doLine_122 : decode cX10_doLine 122 = .ok (.iload_n 2, 1) := by decide +kernel
theorem dX10_doLine_123 : decode cX10_doLine 123 = .ok (.aload_n 0, 1) := by decide +kernel
theorem dX10_doLine_124 : decode cX10_doLine 124 = .ok (.getfield 32, 3) := by decide +kernel
theorem dX10_doLine_127 : decode cX10_doLine 127 = .ok (.iload_n 1, 1) := by decide +kernel
theorem dX10_doLine_128 : decode cX10_doLine 128 = .ok (.iconst 2, 1) := by decide +kernel
theorem dX10_doLine_129 : decode cX10_doLine 129 = .ok (.iadd, 1) := by decide +kernel
theorem dX10_doLine_130 : decode cX10_doLine 130 = .ok (.iaload, 1) := by decide +kernel
theorem dX10_doLine_131 : decode cX10_doLine 131 = .ok (.iastore, 1) := by decide +kernel
theorem dX10_doLine_132 : decode cX10_doLine 132 = .ok (.goto 25, 3) := by decide +kernel
theorem dX10_doLine_135 : decode cX10_doLine 135 = .ok (.aload_n 0, 1) := by decide +kernel
theorem dX10_doLine_136 : decode cX10_doLine 136 = .ok (.iload_n 2, 1) := by decide +kernel
theorem dX10_doLine_137 : decode cX10_doLine 137 = .ok (.putfield 13, 3) := by decide +kernel
theorem dX10_doLine_140 : decode cX10_doLine 140 = .ok (.goto 17, 3) := by decide +kernel
theorem dX10_doLine_143 : decode cX10_doLine 143 = .ok (.aload_n 0, 1) := by decide +kernel
theorem dX10_doLine_144 : decode cX10_doLine 144 = .ok (.getfield 23, 3) := by decide +kernel
theorem dX10_doLine_147 : decode cX10_doLine 147 = .ok (.iload_n 2, 1) := by decide +kernel
theorem dX10_doLine_148 : decode cX10_doLine 148 = .ok (.aload_n 0, 1) := by decide +kernel
theorem dX10_doLine_149 : decode cX10_doLine 149 = .ok (.getfield 32, 3) := by decide +kernel
theorem dX10_doLine_152 : decode cX10_doLine 152 = .ok (.iload_n 1, 1) := by decide +kernel
theorem dX10_doLine_153 : decode cX10_doLine 153 = .ok (.iaload, 1) := by decide +kernel
theorem dX10_doLine_154 : decode cX10_doLine 154 = .ok (.iconst 5, 1) := by decide +kernel
theorem dX10_doLine_155 : decode cX10_doLine 155 = .ok (.isub, 1) := by decide +kernel
theorem dX10_doLine_156 : decode cX10_doLine 156 = .ok (.iastore, 1) := by decide +kernel
theorem dX10_doLine_157 : decode cX10_doLine 157 = .ok (.return_, 1) := by decide +kernel
theorem dX10_hall_0 : decode cX10_hall 0 = .ok (.aload_n 0, 1) := by decide +kernel
theorem dX10_hall_1 : decode cX10_hall 1 = .ok (.invokevirtual 156, 3) := by decide +kernel
theorem dX10_hall_4 : decode cX10_hall 4 = .ok (.ifCond .ne 6, 3) := by decide +kernel
theorem dX10_hall_7 : decode cX10_hall 7 = .ok (.bipush (-4), 2) := by decide +kernel
theorem dX10_hall_9 : decode cX10_hall 9 = .ok (.ireturn, 1) := by decide +kernel
theorem dX10_hall_10 : decode cX10_hall 10 = .ok (.iconst 0, 1) := by decide +kernel
theorem dX10_hall_11 : decode cX10_hall 11 = .ok (.istore_n 1, 1) := by decide +kernel
theorem dX10_hall_12 : decode cX10_hall 12 = .ok (.iload_n 1, 1) := by decide +kernel
theorem dX10_hall_13 : decode cX10_hall 13 = .ok (.aload_n 0, 1) := by decide +kernel
theorem dX10_hall_14 : decode cX10_hall 14 = .ok (.getfield 150, 3) := by decide +kernel
theorem dX10_hall_17 : decode cX10_hall 17 = .ok (.if_icmp .ge 16, 3) := by decide +kernel
theorem dX10_hall_20 : decode cX10_hall 20 = .ok (.aload_n 0, 1) := by decide +kernel
theorem dX10_hall_21 : decode cX10_hall 21 = .ok (.iconst 4, 1) := by decide +kernel
theorem dX10_hall_22 : decode cX10_hall 22 = .ok (.iload_n 1, 1) := by decide +kernel
theorem dX10_hall_23 : decode cX10_hall 23 = .ok (.imul, 1) := by decide +kernel
theorem dX10_hall_24 : decode cX10_hall 24 = .ok (.invokevirtual 159, 3) := by decide +kernel
theorem dX10_hall_27 : decode cX10_hall 27 = .ok (.iinc 1 1, 3) := by decide +kernel
theorem dX10_hall_30 : decode cX10_hall 30 = .ok (.goto (-18), 3) := by decide +kernel
theorem dX10_hall_33 : decode cX10_hall 33 = .ok (.aload_n 0, 1) := by decide +kernel
theorem dX10_hall_34 : decode cX10_hall 34 = .ok (.iconst 0, 1) := by decide +kernel
theorem dX10_hall_35 : decode cX10_hall 35 = .ok (.putfield 73, 3) := by decide +kernel
theorem dX10_hall_38 : decode cX10_hall 38 = .ok (.aload_n 0, 1) := by decide +kernel
theorem dX10_hall_39 : decode cX10_hall 39 = .ok (.invokevirtual 66, 3) := by decide +kernel
theorem dX10_hall_42 : decode cX10_hall 42 = .ok (.aload_n 0, 1) := by decide +kernel
theorem dX10_hall_43 : decode cX10_hall 43 = .ok (.getfield 41, 3) := by decide +kernel
theorem dX10_hall_46 : decode cX10_hall 46 = .ok (.iconst 0, 1) := by decide +kernel
theorem dX10_hall_47 : decode cX10_hall 47 = .ok (.iconst 0, 1) := by decide +kernel
theorem dX10_hall_48 : decode cX10_hall 48 = .ok (.bastore, 1) := by decide +kernel
theorem dX10_hall_49 : decode cX10_hall 49 = .ok (.aload_n 0, 1) := by decide +kernel
theorem dX10_hall_50 : decode cX10_hall 50 = .ok (.getfield 41, 3) := by decide +kernel
theorem dX10_hall_53 : decode cX10_hall 53 = .ok (.iconst 1, 1) := by decide +kernel
theorem dX10_hall_54 : decode cX10_hall 54 = .ok (.iconst 0, 1) := by decide +kernel
theorem dX10_hall_55 : decode cX10_hall 55 = .ok (.bastore, 1) := by decide +kernel
theorem dX10_hall_56 : decode cX10_hall 56 = .ok (.aload_n 0, 1) := by decide +kernel
theorem dX10_hall_57 : decode cX10_hall 57 = .ok (.getfield 150, 3) := by decide +kernel
theorem dX10_hall_60 : decode cX10_hall 60 = .ok (.ireturn, 1) := by decide +kernel
theorem dX10_mayBehind_0 : decode cX10_mayBehind 0 = .ok (.aload_n 0, 1) := by decide +kernel
theorem dX10_mayBehind_1 : decode cX10_mayBehind 1 = .ok (.getfield 23, 3) := by decide +kernel
theorem dX10_mayBehind_4 : decode cX10_mayBehind 4 = .ok (.iload_n 2, 1) := by decide +kernel
theorem dX10_mayBehind_5 : decode cX10_mayBehind 5 = .ok (.iaload, 1) := by decide +kernel
theorem dX10_mayBehind_6 : decode cX10_mayBehind 6 = .ok (.iconst 1, 1) := by decide +kernel
theorem dX10_mayBehind_7 : decode cX10_mayBehind 7 = .ok (.if_icmp .ne 22, 3) := by decide +kernel
theorem dX10_mayBehind_10 : decode cX10_mayBehind 10 = .ok (.iload_n 3, 1) := by decide +kernel
theorem dX10_mayBehind_11 : decode cX10_mayBehind 11 = .ok (.iconst (-1), 1) := by decide +kernel
theorem dX10_mayBehind_12 : decode cX10_mayBehind 12 = .ok (.if_icmp .eq 17, 3) := by decide +kernel
theorem dX10_mayBehind_15 : decode cX10_mayBehind 15 = .ok (.aload_n 0, 1) := by decide +kernel
theorem dX10_mayBehind_16 : decode cX10_mayBehind 16 = .ok (.getfield 23, 3) := by decide +kernel
theorem dX10_mayBehind_19 : decode cX10_mayBehind 19 = .ok (.iload_n 3, 1) := by decide +kernel
theorem dX10_mayBehind_20 : decode cX10_mayBehind 20 = .ok (.iaload, 1) := by decide +kernel
theorem dX10_mayBehind_21 : decode cX10_mayBehind 21 = .ok (.iconst 1, 1) := by decide +kernel
theorem dX10_mayBehind_22 : decode cX10_mayBehind 22 = .ok (.if_icmp .ne 7, 3) := by decide +kernel
theorem dX10_mayBehind_25 : decode cX10_mayBehind 25 = .ok (.iconst 1, 1) := by decide +kernel
theorem dX10_mayBehind_26 : decode cX10_mayBehind 26 = .ok (.goto 4, 3) := by decide +kernel
theorem dX10_mayBehind_29 : decode cX10_mayBehind 29 = .ok (.iconst 0, 1) := by decide +kernel
theorem dX10_mayBehind_30 : decode cX10_mayBehind 30 = .ok (.istore 4, 2) := by decide +kernel
theorem dX10_mayBehind_32 : decode cX10_mayBehind 32 = .ok (.aload_n 0, 1) := by decide +kernel
theorem dX10_mayBehind_33 : decode cX10_mayBehind 33 = .ok (.getfield 16, 3) := by decide +kernel
theorem dX10_mayBehind_36 : decode cX10_mayBehind 36 = .ok (.bipush 7, 2) := by decide +kernel
theorem dX10_mayBehind_38 : decode cX10_mayBehind 38 = .ok (.iload_n 1, 1) := by decide +kernel
theorem dX10_mayBehind_39 : decode cX10_mayBehind 39 = .ok (.imul, 1) := by decide +kernel
theorem dX10_mayBehind_40 : decode cX10_mayBehind 40 = .ok (.iload_n 2, 1) := by decide +kernel
theorem dX10_mayBehind_41 : decode cX10_mayBehind 41 = .ok (.iadd, 1) := by decide +kernel
theorem dX10_mayBehind_42 : decode cX10_mayBehind 42 = .ok (.iaload, 1) := by decide +kernel
theorem dX10_mayBehind_43 : decode cX10_mayBehind 43 = .ok (.ifCond .le 27, 3) := by decide +kernel
theorem dX10_mayBehind_46 : decode cX10_mayBehind 46 = .ok (.iload 4, 2) := by decide +kernel
theorem dX10_mayBehind_48 : decode cX10_mayBehind 48 = .ok (.ifCond .ne 22, 3) := by decide +kernel
theorem dX10_mayBehind_51 : decode cX10_mayBehind 51 = .ok (.aload_n 0, 1) := by decide +kernel
theorem dX10_mayBehind_52 : decode cX10_mayBehind 52 = .ok (.getfield 23, 3) := by decide +kernel
theorem dX10_mayBehind_55 : decode cX10_mayBehind 55 = .ok (.iload_n 2, 1) := by decide +kernel
theorem dX10_mayBehind_56 : decode cX10_mayBehind 56 = .ok (.iaload, 1) := by decide +kernel
theorem dX10_mayBehind_57 : decode cX10_mayBehind 57 = .ok (.iconst 2, 1) := by decide +kernel
theorem dX10_mayBehind_58 : decode cX10_mayBehind 58 = .ok (.if_icmp .ne 8, 3) := by decide +kernel
theorem dX10_mayBehind_61 : decode cX10_mayBehind 61 = .ok (.iload_n 3, 1) := by decide +kernel
theorem dX10_mayBehind_62 : decode cX10_mayBehind 62 = .ok (.iload_n 2, 1) := by decide +kernel
theorem dX10_mayBehind_63 : decode cX10_mayBehind 63 = .ok (.if_icmp .eq 7, 3) := by decide +kernel
theorem dX10_mayBehind_66 : decode cX10_mayBehind 66 = .ok (.iconst 1, 1) := by decide +kernel
theorem dX10_mayBehind_67 : decode cX10_mayBehind 67 = .ok (.goto 4, 3) := by decide +kernel
theorem dX10_mayBehind_70 : decode cX10_mayBehind 70 = .ok (.iconst 0, 1) := by decide +kernel
theorem dX10_mayBehind_71 : decode cX10_mayBehind 71 = .ok (.ireturn, 1) := by decide +kernel
theorem dX10_may_0 : decode cX10_may 0 = .ok (.aload_n 0, 1) := by decide +kernel
theorem dX10_may_1 : decode cX10_may 1 = .ok (.iload_n 1, 1) := by decide +kernel
theorem dX10_may_2 : decode cX10_may 2 = .ok (.iload_n 2, 1) := by decide +kernel
theorem dX10_may_3 : decode cX10_may 3 = .ok (.aload_n 0, 1) := by decide +kernel
theorem dX10_may_4 : decode cX10_may 4 = .ok (.getfield 35, 3) := by decide +kernel
theorem dX10_may_7 : decode cX10_may 7 = .ok (.bipush 8, 2) := by decide +kernel
theorem dX10_may_9 : decode cX10_may 9 = .ok (.iload_n 1, 1) := by decide +kernel
theorem dX10_may_10 : decode cX10_may 10 = .ok (.iadd, 1) := by decide +kernel
theorem dX10_may_11 : decode cX10_may 11 = .ok (.iaload, 1) := by decide +kernel
theorem dX10_may_12 : decode cX10_may 12 = .ok (.invokevirtual 163, 3) := by decide +kernel
theorem dX10_may_15 : decode cX10_may 15 = .ok (.ireturn, 1) := by decide +kernel
theorem dX10_monk_0 : decode cX10_monk 0 = .ok (.aload_n 0, 1) := by decide +kernel
theorem dX10_monk_1 : decode cX10_monk 1 = .ok (.iload_n 1, 1) := by decide +kernel
theorem dX10_monk_2 : decode cX10_monk 2 = .ok (.invokevirtual 166, 3) := by decide +kernel
theorem dX10_monk_5 : decode cX10_monk 5 = .ok (.ifCond .eq 11, 3) := by decide +kernel
theorem dX10_monk_8 : decode cX10_monk 8 = .ok (.aload_n 0, 1) := by decide +kernel
theorem dX10_monk_9 : decode cX10_monk 9 = .ok (.iload_n 2, 1) := by decide +kernel
theorem dX10_monk_10 : decode cX10_monk 10 = .ok (.invokevirtual 166, 3) := by decide +kernel
theorem dX10_monk_13 : decode cX10_monk 13 = .ok (.ifCond .ne 6, 3) := by decide +kernel
theorem dX10_monk_16 : decode cX10_monk 16 = .ok (.bipush (-2), 2) := by decide +kernel
theorem dX10_monk_18 : decode cX10_monk 18 = .ok (.ireturn, 1) := by decide +kernel
theorem dX10_monk_19 : decode cX10_monk 19 = .ok (.iload_n 3, 1) := by decide +kernel
theorem dX10_monk_20 : decode cX10_monk 20 = .ok (.ifCond .ne 17, 3) := by decide +kernel
theorem dX10_monk_23 : decode cX10_monk 23 = .ok (.aload_n 0, 1) := by decide +kernel
theorem dX10_monk_24 : decode cX10_monk 24 = .ok (.getfield 16, 3) := by decide +kernel
theorem dX10_monk_27 : decode cX10_monk 27 = .ok (.bipush 7, 2) := by decide +kernel
theorem dX10_monk_29 : decode cX10_monk 29 = .ok (.iload_n 1, 1) := by decide +kernel
theorem dX10_monk_30 : decode cX10_monk 30 = .ok (.imul, 1) := by decide +kernel
theorem dX10_monk_31 : decode cX10_monk 31 = .ok (.iload_n 2, 1) := by decide +kernel
theorem dX10_monk_32 : decode cX10_monk 32 = .ok (.iadd, 1) := by decide +kernel
theorem dX10_monk_33 : decode cX10_monk 33 = .ok (.iaload, 1) := by decide +kernel
theorem dX10_monk_34 : decode cX10_monk 34 = .ok (.goto 46, 3) := by decide +kernel
theorem dX10_monk_37 : decode cX10_monk 37 = .ok (.iload_n 3, 1) := by decide +kernel
theorem dX10_monk_38 : decode cX10_monk 38 = .ok (.iconst 1, 1) := by decide +kernel
theorem dX10_monk_39 : decode cX10_monk 39 = .ok (.if_icmp .ne 17, 3) := by decide +kernel
theorem dX10_monk_42 : decode cX10_monk 42 = .ok (.aload_n 0, 1) := by decide +kernel
theorem dX10_monk_43 : decode cX10_monk 43 = .ok (.getfield 20, 3) := by decide +kernel
theorem dX10_monk_46 : decode cX10_monk 46 = .ok (.bipush 7, 2) := by decide +kernel
theorem dX10_monk_48 : decode cX10_monk 48 = .ok (.iload_n 1, 1) := by decide +kernel
theorem dX10_monk_49 : decode cX10_monk 49 = .ok (.imul, 1) := by decide +kernel
theorem dX10_monk_50 : decode cX10_monk 50 = .ok (.iload_n 2, 1) := by decide +kernel
theorem dX10_monk_51 : decode cX10_monk 51 = .ok (.iadd, 1) := by decide +kernel
theorem dX10_monk_52 : decode cX10_monk 52 = .ok (.iaload, 1) := by decide +kernel
theorem dX10_monk_53 : decode cX10_monk 53 = .ok (.goto 27, 3) := by decide +kernel
theorem dX10_monk_56 : decode cX10_monk 56 = .ok (.iload_n 3, 1) := by decide +kernel
theorem dX10_monk_57 : decode cX10_monk 57 = .ok (.iconst 2, 1) := by decide +kernel
theorem dX10_monk_58 : decode cX10_monk 58 = .ok (.if_icmp .ne 20, 3) := by decide +kernel
theorem dX10_monk_61 : decode cX10_monk 61 = .ok (.aload_n 0, 1) := by decide +kernel
theorem dX10_monk_62 : decode cX10_monk 62 = .ok (.iload_n 1, 1) := by decide +kernel
theorem dX10_monk_63 : decode cX10_monk 63 = .ok (.iload_n 2, 1) := by decide +kernel
theorem dX10_monk_64 : decode cX10_monk 64 = .ok (.invokevirtual 169, 3) := by decide +kernel
theorem dX10_monk_67 : decode cX10_monk 67 = .ok (.ifCond .eq 7, 3) := by decide +kernel
theorem dX10_monk_70 : decode cX10_monk 70 = .ok (.iconst 1, 1) := by decide +kernel
theorem dX10_monk_71 : decode cX10_monk 71 = .ok (.goto 9, 3) := by decide +kernel
theorem dX10_monk_74 : decode cX10_monk 74 = .ok (.iconst 0, 1) := by decide +kernel
theorem dX10_monk_75 : decode cX10_monk 75 = .ok (.goto 5, 3) := by decide +kernel
theorem dX10_monk_78 : decode cX10_monk 78 = .ok (.bipush (-3), 2) := by decide +kernel
theorem dX10_monk_80 : decode cX10_monk 80 = .ok (.ireturn, 1) := by decide +kernel
theorem dX10_as_0 : decode cX10_as 0 = .ok (.aload_n 0, 1) := by decide +kernel
theorem dX10_as_1 : decode cX10_as 1 = .ok (.iload_n 1, 1) := by decide +kernel
theorem dX10_as_2 : decode cX10_as 2 = .ok (.invokevirtual 166, 3) := by decide +kernel
theorem dX10_as_5 : decode cX10_as 5 = .ok (.ifCond .ne 6, 3) := by decide +kernel
theorem dX10_as_8 : decode cX10_as 8 = .ok (.bipush (-2), 2) := by decide +kernel
theorem dX10_as_10 : decode cX10_as 10 = .ok (.ireturn, 1) := by decide +kernel
theorem dX10_as_11 : decode cX10_as 11 = .ok (.iload_n 2, 1) := by decide +kernel
theorem dX10_as_12 : decode cX10_as 12 = .ok (.iconst 0, 1) := by decide +kernel
theorem dX10_as_13 : decode cX10_as 13 = .ok (.iconst 4, 1) := by decide +kernel
theorem dX10_as_14 : decode cX10_as 14 = .ok (.invokestatic 69, 3) := by decide +kernel
theorem dX10_as_17 : decode cX10_as 17 = .ok (.ifCond .ne 6, 3) := by decide +kernel
theorem dX10_as_20 : decode cX10_as 20 = .ok (.bipush (-3), 2) := by decide +kernel
theorem dX10_as_22 : decode cX10_as 22 = .ok (.ireturn, 1) := by decide +kernel
theorem dX10_as_23 : decode cX10_as 23 = .ok (.iload_n 2, 1) := by decide +kernel
theorem dX10_as_24 : decode cX10_as 24 = .ok (.ifCond .eq 67, 3) := by decide +kernel
theorem dX10_as_27 : decode cX10_as 27 = .ok (.iload_n 2, 1) := by decide +kernel
theorem dX10_as_28 : decode cX10_as 28 = .ok (.iconst 1, 1) := by decide +kernel
theorem dX10_as_29 : decode cX10_as 29 = .ok (.if_icmp .ne 16, 3) := by decide +kernel
theorem dX10_as_32 : decode cX10_as 32 = .ok (.aload_n 0, 1) := by decide +kernel
theorem dX10_as_33 : decode cX10_as 33 = .ok (.getfield 23, 3) := by decide +kernel
theorem dX10_as_36 : decode cX10_as 36 = .ok (.iload_n 1, 1) := by decide +kernel
theorem dX10_as_37 : decode cX10_as 37 = .ok (.iaload, 1) := by decide +kernel
theorem dX10_as_38 : decode cX10_as 38 = .ok (.iconst 2, 1) := by decide +kernel
theorem dX10_as_39 : decode cX10_as 39 = .ok (.if_icmp .ge 56, 3) := by decide +kernel
theorem dX10_as_42 : decode cX10_as 42 = .ok (.goto 49, 3) := by decide +kernel
theorem dX10_as_45 : decode cX10_as 45 = .ok (.iload_n 2, 1) := by decide +kernel
theorem dX10_as_46 : decode cX10_as 46 = .ok (.iconst 2, 1) := by decide +kernel
theorem dX10_as_47 : decode cX10_as 47 = .ok (.if_icmp .ne 16, 3) := by decide +kernel
theorem dX10_as_50 : decode cX10_as 50 = .ok (.aload_n 0, 1) := by decide +kernel
theorem dX10_as_51 : decode cX10_as 51 = .ok (.getfield 23, 3) := by decide +kernel
theorem dX10_as_54 : decode cX10_as 54 = .ok (.iload_n 1, 1) := by decide +kernel
theorem dX10_as_55 : decode cX10_as 55 = .ok (.iaload, 1) := by decide +kernel
theorem dX10_as_56 : decode cX10_as 56 = .ok (.iconst 1, 1) := by decide +kernel
theorem dX10_as_57 : decode cX10_as 57 = .ok (.if_icmp .ne 38, 3) := by decide +kernel
theorem dX10_as_60 : decode cX10_as 60 = .ok (.goto 31, 3) := by decide +kernel
theorem dX10_as_63 : decode cX10_as 63 = .ok (.iload_n 2, 1) := by decide +kernel
theorem dX10_as_64 : decode cX10_as 64 = .ok (.iconst 3, 1) := by decide +kernel
theorem dX10_as_65 : decode cX10_as 65 = .ok (.if_icmp .ne 16, 3) := by decide +kernel
theorem dX10_as_68 : decode cX10_as 68 = .ok (.aload_n 0, 1) := by decide +kernel
theorem dX10_as_69 : decode cX10_as 69 = .ok (.getfield 23, 3) := by decide +kernel
theorem dX10_as_72 : decode cX10_as 72 = .ok (.iload_n 1, 1) := by decide +kernel
theorem dX10_as_73 : decode cX10_as 73 = .ok (.iaload, 1) := by decide +kernel
theorem dX10_as_74 : decode cX10_as 74 = .ok (.iconst 1, 1) := by decide +kernel
theorem dX10_as_75 : decode cX10_as 75 = .ok (.if_icmp .le 20, 3) := by decide +kernel
theorem dX10_as_78 : decode cX10_as 78 = .ok (.goto 13, 3) := by decide +kernel
theorem dX10_as_81 : decode cX10_as 81 = .ok (.aload_n 0, 1) := by decide +kernel
theorem dX10_as_82 : decode cX10_as 82 = .ok (.getfield 23, 3) := by decide +kernel
theorem dX10_as_85 : decode cX10_as 85 = .ok (.iload_n 1, 1) := by decide +kernel
theorem dX10_as_86 : decode cX10_as 86 = .ok (.iaload, 1) := by decide +kernel
theorem dX10_as_87 : decode cX10_as 87 = .ok (.iconst 3, 1) := by decide +kernel
theorem dX10_as_88 : decode cX10_as 88 = .ok (.if_icmp .ne 7, 3) := by decide +kernel
theorem dX10_as_91 : decode cX10_as 91 = .ok (.iconst 1, 1) := by decide +kernel
theorem dX10_as_92 : decode cX10_as 92 = .ok (.goto 4, 3) := by decide +kernel
theorem dX10_as_95 : decode cX10_as 95 = .ok (.iconst 0, 1) := by decide +kernel
theorem dX10_as_96 : decode cX10_as 96 = .ok (.istore_n 3, 1) := by decide +kernel
theorem dX10_as_97 : decode cX10_as 97 = .ok (.iconst 0, 1) := by decide +kernel
theorem dX10_as_98 : decode cX10_as 98 = .ok (.istore 4, 2) := by decide +kernel
theorem dX10_as_100 : decode cX10_as 100 = .ok (.iconst 0, 1) := by decide +kernel
theorem dX10_as_101 : decode cX10_as 101 = .ok (.istore 5, 2) := by decide +kernel
theorem dX10_as_103 : decode cX10_as 103 = .ok (.iload 5, 2) := by decide +kernel
theorem dX10_as_105 : decode cX10_as 105 = .ok (.aload_n 0, 1) := by decide +kernel
theorem dX10_as_106 : decode cX10_as 106 = .ok (.getfield 7, 3) := by decide +kernel
theorem dX10_as_109 : decode cX10_as 109 = .ok (.if_icmp .ge 29, 3) := by decide +kernel
theorem dX10_as_112 : decode cX10_as 112 = .ok (.iload 4, 2) := by decide +kernel
theorem dX10_as_114 : decode cX10_as 114 = .ok (.aload_n 0, 1) := by decide +kernel
theorem dX10_as_115 : decode cX10_as 115 = .ok (.iload 5, 2) := by decide +kernel
theorem dX10_as_117 : decode cX10_as 117 = .ok (.iload_n 1, 1) := by decide +kernel
theorem dX10_as_118 : decode cX10_as 118 = .ok (.invokevirtual 169, 3) := by decide +kernel
theorem dX10_as_121 : decode cX10_as 121 = .ok (.ifCond .eq 7, 3) := by decide +kernel
theorem dX10_as_124 : decode cX10_as 124 = .ok (.iconst 1, 1) := by decide +kernel
theorem dX10_as_125 : decode cX10_as 125 = .ok (.goto 4, 3) := by decide +kernel
theorem dX10_as_128 : decode cX10_as 128 = .ok (.iconst 0, 1) := by decide +kernel
theorem dX10_as_129 : decode cX10_as 129 = .ok (.iadd, 1) := by decide +kernel
theorem dX10_as_130 : decode cX10_as 130 = .ok (.istore 4, 2) := by decide +kernel
theorem dX10_as_132 : decode cX10_as 132 = .ok (.iinc 5 1, 3) := by decide +kernel
theorem dX10_as_135 : decode cX10_as 135 = .ok (.goto (-32), 3) := by decide +kernel
theorem dX10_as_138 : decode cX10_as 138 = .ok (.iload_n 3, 1) := by decide +kernel
theorem dX10_as_139 : decode cX10_as 139 = .ok (.ifCond .eq 8, 3) := by decide +kernel
theorem dX10_as_142 : decode cX10_as 142 = .ok (.iload 4, 2) := by decide +kernel
theorem dX10_as_144 : decode cX10_as 144 = .ok (.goto 5, 3) := by decide +kernel
theorem dX10_as_147 : decode cX10_as 147 = .ok (.bipush (-4), 2) := by decide +kernel
theorem dX10_as_149 : decode cX10_as 149 = .ok (.ireturn, 1) := by decide +kernel
theorem dX10_draws_0 : decode cX10_draws 0 = .ok (.iconst 1, 1) := by decide +kernel
theorem dX10_draws_1 : decode cX10_draws 1 = .ok (.istore_n 1, 1) := by decide +kernel
theorem dX10_draws_2 : decode cX10_draws 2 = .ok (.iconst 2, 1) := by decide +kernel
theorem dX10_draws_3 : decode cX10_draws 3 = .ok (.istore_n 2, 1) := by decide +kernel
theorem dX10_draws_4 : decode cX10_draws 4 = .ok (.iload_n 2, 1) := by decide +kernel
theorem dX10_draws_5 : decode cX10_draws 5 = .ok (.iload_n 0, 1) := by decide +kernel
theorem dX10_draws_6 : decode cX10_draws 6 = .ok (.if_icmp .gt 13, 3) := by decide +kernel
theorem dX10_draws_9 : decode cX10_draws 9 = .ok (.iload_n 1, 1) := by decide +kernel
theorem dX10_draws_10 : decode cX10_draws 10 = .ok (.iload_n 2, 1) := by decide +kernel
theorem dX10_draws_11 : decode cX10_draws 11 = .ok (.imul, 1) := by decide +kernel
theorem dX10_draws_12 : decode cX10_draws 12 = .ok (.istore_n 1, 1) := by decide +kernel
theorem dX10_draws_13 : decode cX10_draws 13 = .ok (.iinc 2 1, 3) := by decide +kernel
theorem dX10_draws_16 : decode cX10_draws 16 = .ok (.goto (-12), 3) := by decide +kernel
theorem dX10_draws_19 : decode cX10_draws 19 = .ok (.iload_n 1, 1) := by decide +kernel
theorem dX10_draws_20 : decode cX10_draws 20 = .ok (.ireturn, 1) := by decide +kernel
theorem dX10_takeDraw_0 : decode cX10_takeDraw 0 = .ok (.iload_n 1, 1) := by decide +kernel
theorem dX10_takeDraw_1 : decode cX10_takeDraw 1 = .ok (.istore_n 2, 1) := by decide +kernel
theorem dX10_takeDraw_2 : decode cX10_takeDraw 2 = .ok (.iconst 0, 1) := by decide +kernel
theorem dX10_takeDraw_3 : decode cX10_takeDraw 3 = .ok (.istore_n 3, 1) := by decide +kernel
theorem dX10_takeDraw_4 : decode cX10_takeDraw 4 = .ok (.iconst 0, 1) := by decide +kernel
theorem dX10_takeDraw_5 : decode cX10_takeDraw 5 = .ok (.istore 4, 2) := by decide +kernel
theorem dX10_takeDraw_7 : decode cX10_takeDraw 7 = .ok (.iload 4, 2) := by decide +kernel
theorem dX10_takeDraw_9 : decode cX10_takeDraw 9 = .ok (.aload_n 0, 1) := by decide +kernel
theorem dX10_takeDraw_10 : decode cX10_takeDraw 10 = .ok (.getfield 7, 3) := by decide +kernel
theorem dX10_takeDraw_13 : decode cX10_takeDraw 13 = .ok (.if_icmp .ge 87, 3) := by decide +kernel
theorem dX10_takeDraw_16 : decode cX10_takeDraw 16 = .ok (.aload_n 0, 1) := by decide +kernel
theorem dX10_takeDraw_17 : decode cX10_takeDraw 17 = .ok (.getfield 7, 3) := by decide +kernel
theorem dX10_takeDraw_20 : decode cX10_takeDraw 20 = .ok (.iconst 1, 1) := by decide +kernel
theorem dX10_takeDraw_21 : decode cX10_takeDraw 21 = .ok (.isub, 1) := by decide +kernel
theorem dX10_takeDraw_22 : decode cX10_takeDraw 22 = .ok (.iload 4, 2) := by decide +kernel
theorem dX10_takeDraw_24 : decode cX10_takeDraw 24 = .ok (.isub, 1) := by decide +kernel
theorem dX10_takeDraw_25 : decode cX10_takeDraw 25 = .ok (.invokestatic 173, 3) := by decide +kernel
theorem dX10_takeDraw_28 : decode cX10_takeDraw 28 = .ok (.istore 5, 2) := by decide +kernel
theorem dX10_takeDraw_30 : decode cX10_takeDraw 30 = .ok (.iload_n 2, 1) := by decide +kernel
theorem dX10_takeDraw_31 : decode cX10_takeDraw 31 = .ok (.iload 5, 2) := by decide +kernel
theorem dX10_takeDraw_33 : decode cX10_takeDraw 33 = .ok (.idiv, 1) := by decide +kernel
theorem dX10_takeDraw_34 : decode cX10_takeDraw 34 = .ok (.istore 6, 2) := by decide +kernel
theorem dX10_takeDraw_36 : decode cX10_takeDraw 36 = .ok (.iload_n 2, 1) := by decide +kernel
theorem dX10_takeDraw_37 : decode cX10_takeDraw 37 = .ok (.iload 5, 2) := by decide +kernel
theorem dX10_takeDraw_39 : decode cX10_takeDraw 39 = .ok (.irem, 1) := by decide +kernel
theorem dX10_takeDraw_40 : decode cX10_takeDraw 40 = .ok (.istore_n 2, 1) := by decide +kernel
theorem dX10_takeDraw_41 : decode cX10_takeDraw 41 = .ok (.iconst 0, 1) := by decide +kernel
theorem dX10_takeDraw_42 : decode cX10_takeDraw 42 = .ok (.istore 7, 2) := by decide +kernel
theorem dX10_takeDraw_44 : decode cX10_takeDraw 44 = .ok (.iload_n 3, 1) := by decide +kernel
theorem dX10_takeDraw_45 : decode cX10_takeDraw 45 = .ok (.iload 7, 2) := by decide +kernel
theorem dX10_takeDraw_47 : decode cX10_takeDraw 47 = .ok (.ishr, 1) := by decide +kernel
theorem dX10_takeDraw_48 : decode cX10_takeDraw 48 = .ok (.iconst 1, 1) := by decide +kernel
theorem dX10_takeDraw_49 : decode cX10_takeDraw 49 = .ok (.iand, 1) := by decide +kernel
theorem dX10_takeDraw_50 : decode cX10_takeDraw 50 = .ok (.iconst 1, 1) := by decide +kernel
theorem dX10_takeDraw_51 : decode cX10_takeDraw 51 = .ok (.if_icmp .eq 8, 3) := by decide +kernel
theorem dX10_takeDraw_54 : decode cX10_takeDraw 54 = .ok (.iload 6, 2) := by decide +kernel
theorem dX10_takeDraw_56 : decode cX10_takeDraw 56 = .ok (.ifCond .le 22, 3) := by decide +kernel
theorem dX10_takeDraw_59 : decode cX10_takeDraw 59 = .ok (.iload 6, 2) := by decide +kernel
theorem dX10_takeDraw_61 : decode cX10_takeDraw 61 = .ok (.iload_n 3, 1) := by decide +kernel
theorem dX10_takeDraw_62 : decode cX10_takeDraw 62 = .ok (.iload 7, 2) := by decide +kernel
theorem dX10_takeDraw_64 : decode cX10_takeDraw 64 = .ok (.ishr, 1) := by decide +kernel
theorem dX10_takeDraw_65 : decode cX10_takeDraw 65 = .ok (.iconst 1, 1) := by decide +kernel
theorem dX10_takeDraw_66 : decode cX10_takeDraw 66 = .ok (.iand, 1) := by decide +kernel
theorem dX10_takeDraw_67 : decode cX10_takeDraw 67 = .ok (.iconst 1, 1) := by decide +kernel
theorem dX10_takeDraw_68 : decode cX10_takeDraw 68 = .ok (.ixor, 1) := by decide +kernel
theorem dX10_takeDraw_69 : decode cX10_takeDraw 69 = .ok (.isub, 1) := by decide +kernel
theorem dX10_takeDraw_70 : decode cX10_takeDraw 70 = .ok (.istore 6, 2) := by decide +kernel
theorem dX10_takeDraw_72 : decode cX10_takeDraw 72 = .ok (.iinc 7 1, 3) := by decide +kernel
theorem dX10_takeDraw_75 : decode cX10_takeDraw 75 = .ok (.goto (-31), 3) := by decide +kernel
theorem dX10_takeDraw_78 : decode cX10_takeDraw 78 = .ok (.aload_n 0, 1) := by decide +kernel
theorem dX10_takeDraw_79 : decode cX10_takeDraw 79 = .ok (.getfield 45, 3) := by decide +kernel
theorem dX10_takeDraw_82 : decode cX10_takeDraw 82 = .ok (.iload 4, 2) := by decide +kernel
theorem dX10_takeDraw_84 : decode cX10_takeDraw 84 = .ok (.iload 7, 2) := by decide +kernel
theorem dX10_takeDraw_86 : decode cX10_takeDraw 86 = .ok (.iastore, 1) := by decide +kernel
theorem dX10_takeDraw_87 : decode cX10_takeDraw 87 = .ok (.iload_n 3, 1) := by decide +kernel
theorem dX10_takeDraw_88 : decode cX10_takeDraw 88 = .ok (.iconst 1, 1) := by decide +kernel
theorem dX10_takeDraw_89 : decode cX10_takeDraw 89 = .ok (.iload 7, 2) := by decide +kernel
theorem dX10_takeDraw_91 : decode cX10_takeDraw 91 = .ok (.ishl, 1) := by decide +kernel
theorem dX10_takeDraw_92 : decode cX10_takeDraw 92 = .ok (.ior, 1) := by decide +kernel
theorem dX10_takeDraw_93 : decode cX10_takeDraw 93 = .ok (.istore_n 3, 1) := by decide +kernel
theorem dX10_takeDraw_94 : decode cX10_takeDraw 94 = .ok (.iinc 4 1, 3) := by decide +kernel
theorem dX10_takeDraw_97 : decode cX10_takeDraw 97 = .ok (.goto (-90), 3) := by decide +kernel
theorem dX10_takeDraw_100 : decode cX10_takeDraw 100 = .ok (.return_, 1) := by decide +kernel
theorem dX10_numberOf_0 : decode cX10_numberOf 0 = .ok (.iconst 0, 1) := by decide +kernel
theorem dX10_numberOf_1 : decode cX10_numberOf 1 = .ok (.istore_n 1, 1) := by decide +kernel
theorem dX10_numberOf_2 : decode cX10_numberOf 2 = .ok (.iconst 0, 1) := by decide +kernel
theorem dX10_numberOf_3 : decode cX10_numberOf 3 = .ok (.istore_n 2, 1) := by decide +kernel
theorem dX10_numberOf_4 : decode cX10_numberOf 4 = .ok (.iload_n 2, 1) := by decide +kernel
theorem dX10_numberOf_5 : decode cX10_numberOf 5 = .ok (.aload_n 0, 1) := by decide +kernel
theorem dX10_numberOf_6 : decode cX10_numberOf 6 = .ok (.getfield 7, 3) := by decide +kernel
theorem dX10_numberOf_9 : decode cX10_numberOf 9 = .ok (.if_icmp .ge 71, 3) := by decide +kernel
theorem dX10_numberOf_12 : decode cX10_numberOf 12 = .ok (.iconst 0, 1) := by decide +kernel
theorem dX10_numberOf_13 : decode cX10_numberOf 13 = .ok (.istore_n 3, 1) := by decide +kernel
theorem dX10_numberOf_14 : decode cX10_numberOf 14 = .ok (.iload_n 2, 1) := by decide +kernel
theorem dX10_numberOf_15 : decode cX10_numberOf 15 = .ok (.iconst 1, 1) := by decide +kernel
theorem dX10_numberOf_16 : decode cX10_numberOf 16 = .ok (.iadd, 1) := by decide +kernel
theorem dX10_numberOf_17 : decode cX10_numberOf 17 = .ok (.istore 4, 2) := by decide +kernel
theorem dX10_numberOf_19 : decode cX10_numberOf 19 = .ok (.iload 4, 2) := by decide +kernel
