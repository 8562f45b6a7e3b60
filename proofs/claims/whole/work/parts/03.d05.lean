theorem dX9_init_161 : decode cX9_init 161 = .ok (.getfield 19, 3) := by decide +kernel
theorem dX9_init_164 : decode cX9_init 164 = .ok (.invokespecial 67, 3) := by decide +kernel
theorem dX9_init_167 : decode cX9_init 167 = .ok (.putfield 68, 3) := by decide +kernel
theorem dX9_init_170 : decode cX9_init 170 = .ok (.aload_n 0, 1) := by decide +kernel
theorem dX9_init_171 : decode cX9_init 171 = .ok (.bipush 7, 2) := by decide +kernel
theorem dX9_init_173 : decode cX9_init 173 = .ok (.newarray .int, 2) := by decide +kernel
theorem dX9_init_175 : decode cX9_init 175 = .ok (.putfield 72, 3) := by decide +kernel
theorem dX9_init_178 : decode cX9_init 178 = .ok (.aload_n 0, 1) := by decide +kernel
theorem dX9_init_179 : decode cX9_init 179 = .ok (.getfield 19, 3) := by decide +kernel
theorem dX9_init_182 : decode cX9_init 182 = .ok (.iconst 4, 1) := by decide +kernel
theorem dX9_init_183 : decode cX9_init 183 = .ok (.invokevirtual 76, 3) := by decide +kernel
theorem dX9_init_186 : decode cX9_init 186 = .ok (.aload_n 0, 1) := by decide +kernel
theorem dX9_init_187 : decode cX9_init 187 = .ok (.getfield 26, 3) := by decide +kernel
theorem dX9_init_190 : decode cX9_init 190 = .ok (.aload_n 0, 1) := by decide +kernel
theorem dX9_init_191 : decode cX9_init 191 = .ok (.getfield 19, 3) := by decide +kernel
theorem dX9_init_194 : decode cX9_init 194 = .ok (.getfield 80, 3) := by decide +kernel
theorem dX9_init_197 : decode cX9_init 197 = .ok (.invokevirtual 83, 3) := by decide +kernel
theorem dX9_init_200 : decode cX9_init 200 = .ok (.aload_n 0, 1) := by decide +kernel
theorem dX9_init_201 : decode cX9_init 201 = .ok (.getfield 43, 3) := by decide +kernel
theorem dX9_init_204 : decode cX9_init 204 = .ok (.aload_n 0, 1) := by decide +kernel
theorem dX9_init_205 : decode cX9_init 205 = .ok (.getfield 26, 3) := by decide +kernel
theorem dX9_init_208 : decode cX9_init 208 = .ok (.getfield 87, 3) := by decide +kernel
theorem dX9_init_211 : decode cX9_init 211 = .ok (.invokevirtual 90, 3) := by decide +kernel
theorem dX9_init_214 : decode cX9_init 214 = .ok (.return_, 1) := by decide +kernel
theorem dX9_write_0 : decode cX9_write 0 = .ok (.iload_n 3, 1) := by decide +kernel
theorem dX9_write_1 : decode cX9_write 1 = .ok (.iconst 1, 1) := by decide +kernel
theorem dX9_write_2 : decode cX9_write 2 = .ok (.if_icmp .lt 9, 3) := by decide +kernel
theorem dX9_write_5 : decode cX9_write 5 = .ok (.iload_n 3, 1) := by decide +kernel
theorem dX9_write_6 : decode cX9_write 6 = .ok (.bipush 8, 2) := by decide +kernel
theorem dX9_write_8 : decode cX9_write 8 = .ok (.if_icmp .le 6, 3) := by decide +kernel
theorem dX9_write_11 : decode cX9_write 11 = .ok (.bipush (-3), 2) := by decide +kernel
theorem dX9_write_13 : decode cX9_write 13 = .ok (.ireturn, 1) := by decide +kernel
theorem dX9_write_14 : decode cX9_write 14 = .ok (.aload_n 0, 1) := by decide +kernel
theorem dX9_write_15 : decode cX9_write 15 = .ok (.getfield 10, 3) := by decide +kernel
theorem dX9_write_18 : decode cX9_write 18 = .ok (.getfield 93, 3) := by decide +kernel
theorem dX9_write_21 : decode cX9_write 21 = .ok (.iload_n 3, 1) := by decide +kernel
theorem dX9_write_22 : decode cX9_write 22 = .ok (.iadd, 1) := by decide +kernel
theorem dX9_write_23 : decode cX9_write 23 = .ok (.sipush 200, 3) := by decide +kernel
theorem dX9_write_26 : decode cX9_write 26 = .ok (.if_icmp .le 6, 3) := by decide +kernel
theorem dX9_write_29 : decode cX9_write 29 = .ok (.bipush (-5), 2) := by decide +kernel
theorem dX9_write_31 : decode cX9_write 31 = .ok (.ireturn, 1) := by decide +kernel
theorem dX9_write_32 : decode cX9_write 32 = .ok (.iconst 0, 1) := by decide +kernel
theorem dX9_write_33 : decode cX9_write 33 = .ok (.istore 4, 2) := by decide +kernel
theorem dX9_write_35 : decode cX9_write 35 = .ok (.iload 4, 2) := by decide +kernel
theorem dX9_write_37 : decode cX9_write 37 = .ok (.iload_n 3, 1) := by decide +kernel
theorem dX9_write_38 : decode cX9_write 38 = .ok (.if_icmp .ge 28, 3) := by decide +kernel
theorem dX9_write_41 : decode cX9_write 41 = .ok (.aload_n 0, 1) := by decide +kernel
theorem dX9_write_42 : decode cX9_write 42 = .ok (.getfield 10, 3) := by decide +kernel
theorem dX9_write_45 : decode cX9_write 45 = .ok (.lload_n 1, 1) := by decide +kernel
theorem dX9_write_46 : decode cX9_write 46 = .ok (.bipush 8, 2) := by decide +kernel
theorem dX9_write_48 : decode cX9_write 48 = .ok (.iload 4, 2) := by decide +kernel
theorem dX9_write_50 : decode cX9_write 50 = .ok (.imul, 1) := by decide +kernel
theorem dX9_write_51 : decode cX9_write 51 = .ok (.lshr, 1) := by decide +kernel
theorem dX9_write_52 : decode cX9_write 52 = .ok (.ldc2_w 97, 3) := by decide +kernel
theorem dX9_write_55 : decode cX9_write 55 = .ok (.land, 1) := by decide +kernel
theorem dX9_write_56 : decode cX9_write 56 = .ok (.l2i, 1) := by decide +kernel
theorem dX9_write_57 : decode cX9_write 57 = .ok (.invokevirtual 99, 3) := by decide +kernel
theorem dX9_write_60 : decode cX9_write 60 = .ok (.iinc 4 1, 3) := by decide +kernel
theorem dX9_write_63 : decode cX9_write 63 = .ok (.goto (-28), 3) := by decide +kernel
theorem dX9_write_66 : decode cX9_write 66 = .ok (.aload_n 0, 1) := by decide +kernel
theorem dX9_write_67 : decode cX9_write 67 = .ok (.getfield 10, 3) := by decide +kernel
theorem dX9_write_70 : decode cX9_write 70 = .ok (.getfield 93, 3) := by decide +kernel
theorem dX9_write_73 : decode cX9_write 73 = .ok (.ireturn, 1) := by decide +kernel
theorem dX9_erase_0 : decode cX9_erase 0 = .ok (.aload_n 0, 1) := by decide +kernel
theorem dX9_erase_1 : decode cX9_erase 1 = .ok (.getfield 10, 3) := by decide +kernel
theorem dX9_erase_4 : decode cX9_erase 4 = .ok (.getfield 93, 3) := by decide +kernel
theorem dX9_erase_7 : decode cX9_erase 7 = .ok (.istore_n 1, 1) := by decide +kernel
theorem dX9_erase_8 : decode cX9_erase 8 = .ok (.aload_n 0, 1) := by decide +kernel
theorem dX9_erase_9 : decode cX9_erase 9 = .ok (.getfield 10, 3) := by decide +kernel
theorem dX9_erase_12 : decode cX9_erase 12 = .ok (.iconst 0, 1) := by decide +kernel
theorem dX9_erase_13 : decode cX9_erase 13 = .ok (.putfield 93, 3) := by decide +kernel
theorem dX9_erase_16 : decode cX9_erase 16 = .ok (.iload_n 1, 1) := by decide +kernel
theorem dX9_erase_17 : decode cX9_erase 17 = .ok (.ireturn, 1) := by decide +kernel
theorem dX9_fault_0 : decode cX9_fault 0 = .ok (.aload_n 0, 1) := by decide +kernel
theorem dX9_fault_1 : decode cX9_fault 1 = .ok (.getfield 10, 3) := by decide +kernel
theorem dX9_fault_4 : decode cX9_fault 4 = .ok (.aload_n 0, 1) := by decide +kernel
theorem dX9_fault_5 : decode cX9_fault 5 = .ok (.getfield 19, 3) := by decide +kernel
theorem dX9_fault_8 : decode cX9_fault 8 = .ok (.getfield 102, 3) := by decide +kernel
theorem dX9_fault_11 : decode cX9_fault 11 = .ok (.invokevirtual 105, 3) := by decide +kernel
theorem dX9_fault_14 : decode cX9_fault 14 = .ok (.ireturn, 1) := by decide +kernel
theorem dX9_hall_0 : decode cX9_hall 0 = .ok (.aload_n 0, 1) := by decide +kernel
theorem dX9_hall_1 : decode cX9_hall 1 = .ok (.getfield 10, 3) := by decide +kernel
theorem dX9_hall_4 : decode cX9_hall 4 = .ok (.aload_n 0, 1) := by decide +kernel
theorem dX9_hall_5 : decode cX9_hall 5 = .ok (.getfield 19, 3) := by decide +kernel
theorem dX9_hall_8 : decode cX9_hall 8 = .ok (.getfield 102, 3) := by decide +kernel
theorem dX9_hall_11 : decode cX9_hall 11 = .ok (.invokevirtual 105, 3) := by decide +kernel
theorem dX9_hall_14 : decode cX9_hall 14 = .ok (.iconst (-1), 1) := by decide +kernel
theorem dX9_hall_15 : decode cX9_hall 15 = .ok (.if_icmp .eq 6, 3) := by decide +kernel
theorem dX9_hall_18 : decode cX9_hall 18 = .ok (.bipush (-4), 2) := by decide +kernel
theorem dX9_hall_20 : decode cX9_hall 20 = .ok (.ireturn, 1) := by decide +kernel
theorem dX9_hall_21 : decode cX9_hall 21 = .ok (.iconst 0, 1) := by decide +kernel
theorem dX9_hall_22 : decode cX9_hall 22 = .ok (.istore_n 1, 1) := by decide +kernel
theorem dX9_hall_23 : decode cX9_hall 23 = .ok (.iload_n 1, 1) := by decide +kernel
theorem dX9_hall_24 : decode cX9_hall 24 = .ok (.aload_n 0, 1) := by decide +kernel
theorem dX9_hall_25 : decode cX9_hall 25 = .ok (.getfield 10, 3) := by decide +kernel
theorem dX9_hall_28 : decode cX9_hall 28 = .ok (.getfield 109, 3) := by decide +kernel
theorem dX9_hall_31 : decode cX9_hall 31 = .ok (.if_icmp .ge 26, 3) := by decide +kernel
theorem dX9_hall_34 : decode cX9_hall 34 = .ok (.aload_n 0, 1) := by decide +kernel
theorem dX9_hall_35 : decode cX9_hall 35 = .ok (.getfield 19, 3) := by decide +kernel
theorem dX9_hall_38 : decode cX9_hall 38 = .ok (.aload_n 0, 1) := by decide +kernel
theorem dX9_hall_39 : decode cX9_hall 39 = .ok (.getfield 10, 3) := by decide +kernel
theorem dX9_hall_42 : decode cX9_hall 42 = .ok (.getfield 112, 3) := by decide +kernel
theorem dX9_hall_45 : decode cX9_hall 45 = .ok (.iload_n 1, 1) := by decide +kernel
theorem dX9_hall_46 : decode cX9_hall 46 = .ok (.iconst 4, 1) := by decide +kernel
theorem dX9_hall_47 : decode cX9_hall 47 = .ok (.imul, 1) := by decide +kernel
theorem dX9_hall_48 : decode cX9_hall 48 = .ok (.invokevirtual 115, 3) := by decide +kernel
theorem dX9_hall_51 : decode cX9_hall 51 = .ok (.iinc 1 1, 3) := by decide +kernel
theorem dX9_hall_54 : decode cX9_hall 54 = .ok (.goto (-31), 3) := by decide +kernel
theorem dX9_hall_57 : decode cX9_hall 57 = .ok (.aload_n 0, 1) := by decide +kernel
theorem dX9_hall_58 : decode cX9_hall 58 = .ok (.getfield 10, 3) := by decide +kernel
theorem dX9_hall_61 : decode cX9_hall 61 = .ok (.iconst 0, 1) := by decide +kernel
theorem dX9_hall_62 : decode cX9_hall 62 = .ok (.putfield 93, 3) := by decide +kernel
theorem dX9_hall_65 : decode cX9_hall 65 = .ok (.aload_n 0, 1) := by decide +kernel
theorem dX9_hall_66 : decode cX9_hall 66 = .ok (.getfield 26, 3) := by decide +kernel
theorem dX9_hall_69 : decode cX9_hall 69 = .ok (.aload_n 0, 1) := by decide +kernel
theorem dX9_hall_70 : decode cX9_hall 70 = .ok (.getfield 19, 3) := by decide +kernel
theorem dX9_hall_73 : decode cX9_hall 73 = .ok (.getfield 80, 3) := by decide +kernel
theorem dX9_hall_76 : decode cX9_hall 76 = .ok (.invokevirtual 83, 3) := by decide +kernel
theorem dX9_hall_79 : decode cX9_hall 79 = .ok (.iconst 0, 1) := by decide +kernel
theorem dX9_hall_80 : decode cX9_hall 80 = .ok (.istore_n 1, 1) := by decide +kernel
theorem dX9_hall_81 : decode cX9_hall 81 = .ok (.iload_n 1, 1) := by decide +kernel
theorem dX9_hall_82 : decode cX9_hall 82 = .ok (.iconst 2, 1) := by decide +kernel
theorem dX9_hall_83 : decode cX9_hall 83 = .ok (.if_icmp .ge 16, 3) := by decide +kernel
theorem dX9_hall_86 : decode cX9_hall 86 = .ok (.aload_n 0, 1) := by decide +kernel
theorem dX9_hall_87 : decode cX9_hall 87 = .ok (.getfield 34, 3) := by decide +kernel
theorem dX9_hall_90 : decode cX9_hall 90 = .ok (.iload_n 1, 1) := by decide +kernel
theorem dX9_hall_91 : decode cX9_hall 91 = .ok (.iconst 0, 1) := by decide +kernel
theorem dX9_hall_92 : decode cX9_hall 92 = .ok (.bastore, 1) := by decide +kernel
theorem dX9_hall_93 : decode cX9_hall 93 = .ok (.iinc 1 1, 3) := by decide +kernel
theorem dX9_hall_96 : decode cX9_hall 96 = .ok (.goto (-15), 3) := by decide +kernel
theorem dX9_hall_99 : decode cX9_hall 99 = .ok (.aload_n 0, 1) := by decide +kernel
theorem dX9_hall_100 : decode cX9_hall 100 = .ok (.invokevirtual 119, 3) := by decide +kernel
theorem dX9_hall_103 : decode cX9_hall 103 = .ok (.aload_n 0, 1) := by decide +kernel
theorem dX9_hall_104 : decode cX9_hall 104 = .ok (.getfield 10, 3) := by decide +kernel
theorem dX9_hall_107 : decode cX9_hall 107 = .ok (.getfield 109, 3) := by decide +kernel
theorem dX9_hall_110 : decode cX9_hall 110 = .ok (.ireturn, 1) := by decide +kernel
theorem dX9_monk_0 : decode cX9_monk 0 = .ok (.aload_n 0, 1) := by decide +kernel
theorem dX9_monk_1 : decode cX9_monk 1 = .ok (.iload_n 1, 1) := by decide +kernel
theorem dX9_monk_2 : decode cX9_monk 2 = .ok (.invokevirtual 122, 3) := by decide +kernel
theorem dX9_monk_5 : decode cX9_monk 5 = .ok (.ifCond .eq 11, 3) := by decide +kernel
theorem dX9_monk_8 : decode cX9_monk 8 = .ok (.aload_n 0, 1) := by decide +kernel
theorem dX9_monk_9 : decode cX9_monk 9 = .ok (.iload_n 2, 1) := by decide +kernel
theorem dX9_monk_10 : decode cX9_monk 10 = .ok (.invokevirtual 122, 3) := by decide +kernel
theorem dX9_monk_13 : decode cX9_monk 13 = .ok (.ifCond .ne 6, 3) := by decide +kernel
theorem dX9_monk_16 : decode cX9_monk 16 = .ok (.bipush (-2), 2) := by decide +kernel
theorem dX9_monk_18 : decode cX9_monk 18 = .ok (.ireturn, 1) := by decide +kernel
theorem dX9_monk_19 : decode cX9_monk 19 = .ok (.iload_n 3, 1) := by decide +kernel
theorem dX9_monk_20 : decode cX9_monk 20 = .ok (.tableswitch 66 0 2 #[28, 38, 48], 28) := by decide +kernel
theorem dX9_monk_48 : decode cX9_monk 48 = .ok (.aload_n 0, 1) := by decide +kernel
theorem dX9_monk_49 : decode cX9_monk 49 = .ok (.getfield 19, 3) := by decide +kernel
theorem dX9_monk_52 : decode cX9_monk 52 = .ok (.iload_n 1, 1) := by decide +kernel
theorem dX9_monk_53 : decode cX9_monk 53 = .ok (.iload_n 2, 1) := by decide +kernel
theorem dX9_monk_54 : decode cX9_monk 54 = .ok (.invokevirtual 126, 3) := by decide +kernel
theorem dX9_monk_57 : decode cX9_monk 57 = .ok (.ireturn, 1) := by decide +kernel
theorem dX9_monk_58 : decode cX9_monk 58 = .ok (.aload_n 0, 1) := by decide +kernel
theorem dX9_monk_59 : decode cX9_monk 59 = .ok (.getfield 19, 3) := by decide +kernel
theorem dX9_monk_62 : decode cX9_monk 62 = .ok (.iload_n 1, 1) := by decide +kernel
theorem dX9_monk_63 : decode cX9_monk 63 = .ok (.iload_n 2, 1) := by decide +kernel
theorem dX9_monk_64 : decode cX9_monk 64 = .ok (.invokevirtual 130, 3) := by decide +kernel
theorem dX9_monk_67 : decode cX9_monk 67 = .ok (.ireturn, 1) := by decide +kernel
theorem dX9_monk_68 : decode cX9_monk 68 = .ok (.aload_n 0, 1) := by decide +kernel
theorem dX9_monk_69 : decode cX9_monk 69 = .ok (.getfield 43, 3) := by decide +kernel
theorem dX9_monk_72 : decode cX9_monk 72 = .ok (.iload_n 1, 1) := by decide +kernel
theorem dX9_monk_73 : decode cX9_monk 73 = .ok (.iload_n 2, 1) := by decide +kernel
theorem dX9_monk_74 : decode cX9_monk 74 = .ok (.invokevirtual 133, 3) := by decide +kernel
theorem dX9_monk_77 : decode cX9_monk 77 = .ok (.ifCond .eq 7, 3) := by decide +kernel
theorem dX9_monk_80 : decode cX9_monk 80 = .ok (.iconst 1, 1) := by decide +kernel
theorem dX9_monk_81 : decode cX9_monk 81 = .ok (.goto 4, 3) := by decide +kernel
theorem dX9_monk_84 : decode cX9_monk 84 = .ok (.iconst 0, 1) := by decide +kernel
theorem dX9_monk_85 : decode cX9_monk 85 = .ok (.ireturn, 1) := by decide +kernel
theorem dX9_monk_86 : decode cX9_monk 86 = .ok (.bipush (-3), 2) := by decide +kernel
theorem dX9_monk_88 : decode cX9_monk 88 = .ok (.ireturn, 1) := by decide +kernel
theorem dX9_as_0 : decode cX9_as 0 = .ok (.aload_n 0, 1) := by decide +kernel
theorem dX9_as_1 : decode cX9_as 1 = .ok (.iload_n 1, 1) := by decide +kernel
theorem dX9_as_2 : decode cX9_as 2 = .ok (.invokevirtual 122, 3) := by decide +kernel
theorem dX9_as_5 : decode cX9_as 5 = .ok (.ifCond .ne 6, 3) := by decide +kernel
theorem dX9_as_8 : decode cX9_as 8 = .ok (.bipush (-2), 2) := by decide +kernel
theorem dX9_as_10 : decode cX9_as 10 = .ok (.ireturn, 1) := by decide +kernel
theorem dX9_as_11 : decode cX9_as 11 = .ok (.iload_n 2, 1) := by decide +kernel
theorem dX9_as_12 : decode cX9_as 12 = .ok (.ifCond .lt 8, 3) := by decide +kernel
theorem dX9_as_15 : decode cX9_as 15 = .ok (.iload_n 2, 1) := by decide +kernel
theorem dX9_as_16 : decode cX9_as 16 = .ok (.iconst 5, 1) := by decide +kernel
theorem dX9_as_17 : decode cX9_as 17 = .ok (.if_icmp .lt 6, 3) := by decide +kernel
theorem dX9_as_20 : decode cX9_as 20 = .ok (.bipush (-3), 2) := by decide +kernel
theorem dX9_as_22 : decode cX9_as 22 = .ok (.ireturn, 1) := by decide +kernel
theorem dX9_as_23 : decode cX9_as 23 = .ok (.aload_n 0, 1) := by decide +kernel
theorem dX9_as_24 : decode cX9_as 24 = .ok (.getfield 19, 3) := by decide +kernel
theorem dX9_as_27 : decode cX9_as 27 = .ok (.iload_n 1, 1) := by decide +kernel
theorem dX9_as_28 : decode cX9_as 28 = .ok (.iload_n 2, 1) := by decide +kernel
theorem dX9_as_29 : decode cX9_as 29 = .ok (.invokevirtual 137, 3) := by decide +kernel
theorem dX9_as_32 : decode cX9_as 32 = .ok (.ifCond .ne 6, 3) := by decide +kernel
theorem dX9_as_35 : decode cX9_as 35 = .ok (.bipush (-4), 2) := by decide +kernel
theorem dX9_as_37 : decode cX9_as 37 = .ok (.ireturn, 1) := by decide +kernel
theorem dX9_as_38 : decode cX9_as 38 = .ok (.iconst 0, 1) := by decide +kernel
theorem dX9_as_39 : decode cX9_as 39 = .ok (.istore_n 3, 1) := by decide +kernel
theorem dX9_as_40 : decode cX9_as 40 = .ok (.iconst 0, 1) := by decide +kernel
theorem dX9_as_41 : decode cX9_as 41 = .ok (.istore 4, 2) := by decide +kernel
theorem dX9_as_43 : decode cX9_as 43 = .ok (.iload 4, 2) := by decide +kernel
theorem dX9_as_45 : decode cX9_as 45 = .ok (.aload_n 0, 1) := by decide +kernel
theorem dX9_as_46 : decode cX9_as 46 = .ok (.getfield 19, 3) := by decide +kernel
theorem dX9_as_49 : decode cX9_as 49 = .ok (.getfield 102, 3) := by decide +kernel
theorem dX9_as_52 : decode cX9_as 52 = .ok (.if_icmp .ge 25, 3) := by decide +kernel
theorem dX9_as_55 : decode cX9_as 55 = .ok (.aload_n 0, 1) := by decide +kernel
theorem dX9_as_56 : decode cX9_as 56 = .ok (.getfield 43, 3) := by decide +kernel
theorem dX9_as_59 : decode cX9_as 59 = .ok (.iload 4, 2) := by decide +kernel
theorem dX9_as_61 : decode cX9_as 61 = .ok (.iload_n 1, 1) := by decide +kernel
theorem dX9_as_62 : decode cX9_as 62 = .ok (.invokevirtual 133, 3) := by decide +kernel
theorem dX9_as_65 : decode cX9_as 65 = .ok (.ifCond .eq 6, 3) := by decide +kernel
theorem dX9_as_68 : decode cX9_as 68 = .ok (.iinc 3 1, 3) := by decide +kernel
theorem dX9_as_71 : decode cX9_as 71 = .ok (.iinc 4 1, 3) := by decide +kernel
theorem dX9_as_74 : decode cX9_as 74 = .ok (.goto (-31), 3) := by decide +kernel
theorem dX9_as_77 : decode cX9_as 77 = .ok (.iload_n 3, 1) := by decide +kernel
theorem dX9_as_78 : decode cX9_as 78 = .ok (.ireturn, 1) := by decide +kernel
theorem dX9_lay_0 : decode cX9_lay 0 = .ok (.iload_n 1, 1) := by decide +kernel
theorem dX9_lay_1 : decode cX9_lay 1 = .ok (.ifCond .lt 18, 3) := by decide +kernel
theorem dX9_lay_4 : decode cX9_lay 4 = .ok (.iload_n 1, 1) := by decide +kernel
theorem dX9_lay_5 : decode cX9_lay 5 = .ok (.getstatic 140, 3) := by decide +kernel
theorem dX9_lay_8 : decode cX9_lay 8 = .ok (.aload_n 0, 1) := by decide +kernel
theorem dX9_lay_9 : decode cX9_lay 9 = .ok (.getfield 19, 3) := by decide +kernel
theorem dX9_lay_12 : decode cX9_lay 12 = .ok (.getfield 102, 3) := by decide +kernel
theorem dX9_lay_15 : decode cX9_lay 15 = .ok (.iaload, 1) := by decide +kernel
theorem dX9_lay_16 : decode cX9_lay 16 = .ok (.if_icmp .lt 6, 3) := by decide +kernel
theorem dX9_lay_19 : decode cX9_lay 19 = .ok (.bipush (-3), 2) := by decide +kernel
theorem dX9_lay_21 : decode cX9_lay 21 = .ok (.ireturn, 1) := by decide +kernel
theorem dX9_lay_22 : decode cX9_lay 22 = .ok (.aload_n 0, 1) := by decide +kernel
theorem dX9_lay_23 : decode cX9_lay 23 = .ok (.getfield 72, 3) := by decide +kernel
theorem dX9_lay_26 : decode cX9_lay 26 = .ok (.aload_n 0, 1) := by decide +kernel
theorem dX9_lay_27 : decode cX9_lay 27 = .ok (.getfield 19, 3) := by decide +kernel
theorem dX9_lay_30 : decode cX9_lay 30 = .ok (.getfield 102, 3) := by decide +kernel
theorem dX9_lay_33 : decode cX9_lay 33 = .ok (.iload_n 1, 1) := by decide +kernel
theorem dX9_lay_34 : decode cX9_lay 34 = .ok (.invokestatic 143, 3) := by decide +kernel
theorem dX9_lay_37 : decode cX9_lay 37 = .ok (.aload_n 0, 1) := by decide +kernel
theorem dX9_lay_38 : decode cX9_lay 38 = .ok (.getfield 43, 3) := by decide +kernel
theorem dX9_lay_41 : decode cX9_lay 41 = .ok (.aload_n 0, 1) := by decide +kernel
theorem dX9_lay_42 : decode cX9_lay 42 = .ok (.getfield 72, 3) := by decide +kernel
theorem dX9_lay_45 : decode cX9_lay 45 = .ok (.invokevirtual 149, 3) := by decide +kernel
theorem dX9_lay_48 : decode cX9_lay 48 = .ok (.ifCond .ne 6, 3) := by decide +kernel
theorem dX9_lay_51 : decode cX9_lay 51 = .ok (.bipush (-4), 2) := by decide +kernel
theorem dX9_lay_53 : decode cX9_lay 53 = .ok (.ireturn, 1) := by decide +kernel
theorem dX9_lay_54 : decode cX9_lay 54 = .ok (.aload_n 0, 1) := by decide +kernel
theorem dX9_lay_55 : decode cX9_lay 55 = .ok (.getfield 26, 3) := by decide +kernel
theorem dX9_lay_58 : decode cX9_lay 58 = .ok (.aload_n 0, 1) := by decide +kernel
theorem dX9_lay_59 : decode cX9_lay 59 = .ok (.getfield 72, 3) := by decide +kernel
theorem dX9_lay_62 : decode cX9_lay 62 = .ok (.invokevirtual 153, 3) := by decide +kernel
theorem dX9_lay_65 : decode cX9_lay 65 = .ok (.iconst 1, 1) := by decide +kernel
theorem dX9_lay_66 : decode cX9_lay 66 = .ok (.ireturn, 1) := by decide +kernel
theorem dX9_draw_0 : decode cX9_draw 0 = .ok (.iload_n 1, 1) := by decide +kernel
theorem dX9_draw_1 : decode cX9_draw 1 = .ok (.iconst 1, 1) := by decide +kernel
theorem dX9_draw_2 : decode cX9_draw 2 = .ok (.if_icmp .lt 10, 3) := by decide +kernel
theorem dX9_draw_5 : decode cX9_draw 5 = .ok (.iload_n 1, 1) := by decide +kernel
theorem dX9_draw_6 : decode cX9_draw 6 = .ok (.sipush 9999, 3) := by decide +kernel
theorem dX9_draw_9 : decode cX9_draw 9 = .ok (.if_icmp .le 6, 3) := by decide +kernel
theorem dX9_draw_12 : decode cX9_draw 12 = .ok (.bipush (-3), 2) := by decide +kernel
theorem dX9_draw_14 : decode cX9_draw 14 = .ok (.ireturn, 1) := by decide +kernel
theorem dX9_draw_15 : decode cX9_draw 15 = .ok (.iload_n 1, 1) := by decide +kernel
theorem dX9_draw_16 : decode cX9_draw 16 = .ok (.istore_n 2, 1) := by decide +kernel
theorem dX9_draw_17 : decode cX9_draw 17 = .ok (.iconst 1, 1) := by decide +kernel
theorem dX9_draw_18 : decode cX9_draw 18 = .ok (.istore_n 3, 1) := by decide +kernel
theorem dX9_draw_19 : decode cX9_draw 19 = .ok (.iload_n 3, 1) := by decide +kernel
theorem dX9_draw_20 : decode cX9_draw 20 = .ok (.bipush 50, 2) := by decide +kernel
theorem dX9_draw_22 : decode cX9_draw 22 = .ok (.if_icmp .gt 52, 3) := by decide +kernel
theorem dX9_draw_25 : decode cX9_draw 25 = .ok (.aload_n 0, 1) := by decide +kernel
theorem dX9_draw_26 : decode cX9_draw 26 = .ok (.getfield 72, 3) := by decide +kernel
theorem dX9_draw_29 : decode cX9_draw 29 = .ok (.aload_n 0, 1) := by decide +kernel
theorem dX9_draw_30 : decode cX9_draw 30 = .ok (.getfield 19, 3) := by decide +kernel
theorem dX9_draw_33 : decode cX9_draw 33 = .ok (.getfield 102, 3) := by decide +kernel
theorem dX9_draw_36 : decode cX9_draw 36 = .ok (.iload_n 2, 1) := by decide +kernel
theorem dX9_draw_37 : decode cX9_draw 37 = .ok (.invokestatic 156, 3) := by decide +kernel
theorem dX9_draw_40 : decode cX9_draw 40 = .ok (.istore_n 2, 1) := by decide +kernel
theorem dX9_draw_41 : decode cX9_draw 41 = .ok (.aload_n 0, 1) := by decide +kernel
theorem dX9_draw_42 : decode cX9_draw 42 = .ok (.getfield 43, 3) := by decide +kernel
theorem dX9_draw_45 : decode cX9_draw 45 = .ok (.aload_n 0, 1) := by decide +kernel
theorem dX9_draw_46 : decode cX9_draw 46 = .ok (.getfield 72, 3) := by decide +kernel
theorem dX9_draw_49 : decode cX9_draw 49 = .ok (.invokevirtual 149, 3) := by decide +kernel
theorem dX9_draw_52 : decode cX9_draw 52 = .ok (.ifCond .eq 16, 3) := by decide +kernel
theorem dX9_draw_55 : decode cX9_draw 55 = .ok (.aload_n 0, 1) := by decide +kernel
theorem dX9_draw_56 : decode cX9_draw 56 = .ok (.getfield 26, 3) := by decide +kernel
theorem dX9_draw_59 : decode cX9_draw 59 = .ok (.aload_n 0, 1) := by decide +kernel
theorem dX9_draw_60 : decode cX9_draw 60 = .ok (.getfield 72, 3) := by decide +kernel
theorem dX9_draw_63 : decode cX9_draw 63 = .ok (.invokevirtual 153, 3) := by decide +kernel
theorem dX9_draw_66 : decode cX9_draw 66 = .ok (.iload_n 3, 1) := by decide +kernel
theorem dX9_draw_67 : decode cX9_draw 67 = .ok (.ireturn, 1) := by decide +kernel
theorem dX9_draw_68 : decode cX9_draw 68 = .ok (.iinc 3 1, 3) := by decide +kernel
theorem dX9_draw_71 : decode cX9_draw 71 = .ok (.goto (-52), 3) := by decide +kernel
theorem dX9_draw_74 : decode cX9_draw 74 = .ok (.bipush (-4), 2) := by decide +kernel
theorem dX9_draw_76 : decode cX9_draw 76 = .ok (.ireturn, 1) := by decide +kernel
theorem dX9_has_0 : decode cX9_has 0 = .ok (.aload_n 0, 1) := by decide +kernel
theorem dX9_has_1 : decode cX9_has 1 = .ok (.iload_n 1, 1) := by decide +kernel
theorem dX9_has_2 : decode cX9_has 2 = .ok (.invokevirtual 122, 3) := by decide +kernel
theorem dX9_has_5 : decode cX9_has 5 = .ok (.ifCond .ne 6, 3) := by decide +kernel
theorem dX9_has_8 : decode cX9_has 8 = .ok (.bipush (-2), 2) := by decide +kernel
theorem dX9_has_10 : decode cX9_has 10 = .ok (.ireturn, 1) := by decide +kernel
theorem dX9_has_11 : decode cX9_has 11 = .ok (.iload_n 2, 1) := by decide +kernel
theorem dX9_has_12 : decode cX9_has 12 = .ok (.ifCond .lt 8, 3) := by decide +kernel
theorem dX9_has_15 : decode cX9_has 15 = .ok (.iload_n 2, 1) := by decide +kernel
theorem dX9_has_16 : decode cX9_has 16 = .ok (.iconst 1, 1) := by decide +kernel
theorem dX9_has_17 : decode cX9_has 17 = .ok (.if_icmp .le 6, 3) := by decide +kernel
theorem dX9_has_20 : decode cX9_has 20 = .ok (.bipush (-3), 2) := by decide +kernel
theorem dX9_has_22 : decode cX9_has 22 = .ok (.ireturn, 1) := by decide +kernel
theorem dX9_has_23 : decode cX9_has 23 = .ok (.iload_n 2, 1) := by decide +kernel
theorem dX9_has_24 : decode cX9_has 24 = .ok (.iconst 1, 1) := by decide +kernel
theorem dX9_has_25 : decode cX9_has 25 = .ok (.if_icmp .ne 13, 3) := by decide +kernel
theorem dX9_has_28 : decode cX9_has 28 = .ok (.aload_n 0, 1) := by decide +kernel
theorem dX9_has_29 : decode cX9_has 29 = .ok (.getfield 26, 3) := by decide +kernel
theorem dX9_has_32 : decode cX9_has 32 = .ok (.getfield 87, 3) := by decide +kernel
theorem dX9_has_35 : decode cX9_has 35 = .ok (.iload_n 1, 1) := by decide +kernel
theorem dX9_has_36 : decode cX9_has 36 = .ok (.iaload, 1) := by decide +kernel
theorem dX9_has_37 : decode cX9_has 37 = .ok (.ireturn, 1) := by decide +kernel
theorem dX9_has_38 : decode cX9_has 38 = .ok (.aload_n 0, 1) := by decide +kernel
theorem dX9_has_39 : decode cX9_has 39 = .ok (.getfield 26, 3) := by decide +kernel
theorem dX9_has_42 : decode cX9_has 42 = .ok (.getfield 160, 3) := by decide +kernel
theorem dX9_has_45 : decode cX9_has 45 = .ok (.ifCond .eq 15, 3) := by decide +kernel
theorem dX9_has_48 : decode cX9_has 48 = .ok (.aload_n 0, 1) := by decide +kernel
theorem dX9_has_49 : decode cX9_has 49 = .ok (.getfield 26, 3) := by decide +kernel
theorem dX9_has_52 : decode cX9_has 52 = .ok (.getfield 164, 3) := by decide +kernel
theorem dX9_has_55 : decode cX9_has 55 = .ok (.iload_n 1, 1) := by decide +kernel
theorem dX9_has_56 : decode cX9_has 56 = .ok (.iaload, 1) := by decide +kernel
theorem dX9_has_57 : decode cX9_has 57 = .ok (.goto 4, 3) := by decide +kernel
theorem dX9_has_60 : decode cX9_has 60 = .ok (.iconst (-1), 1) := by decide +kernel
theorem dX9_has_61 : decode cX9_has 61 = .ok (.ireturn, 1) := by decide +kernel
theorem dX9_trade_0 : decode cX9_trade 0 = .ok (.aload_n 0, 1) := by decide +kernel
theorem dX9_trade_1 : decode cX9_trade 1 = .ok (.iload_n 1, 1) := by decide +kernel
theorem dX9_trade_2 : decode cX9_trade 2 = .ok (.invokevirtual 122, 3) := by decide +kernel
theorem dX9_trade_5 : decode cX9_trade 5 = .ok (.ifCond .eq 30, 3) := by decide +kernel
theorem dX9_trade_8 : decode cX9_trade 8 = .ok (.aload_n 0, 1) := by decide +kernel
theorem dX9_trade_9 : decode cX9_trade 9 = .ok (.iload_n 2, 1) := by decide +kernel
theorem dX9_trade_10 : decode cX9_trade 10 = .ok (.invokevirtual 122, 3) := by decide +kernel
theorem dX9_trade_13 : decode cX9_trade 13 = .ok (.ifCond .eq 22, 3) := by decide +kernel
theorem dX9_trade_16 : decode cX9_trade 16 = .ok (.aload_n 0, 1) := by decide +kernel
theorem dX9_trade_17 : decode cX9_trade 17 = .ok (.getfield 19, 3) := by decide +kernel
theorem dX9_trade_20 : decode cX9_trade 20 = .ok (.getfield 167, 3) := by decide +kernel
theorem dX9_trade_23 : decode cX9_trade 23 = .ok (.iconst 3, 1) := by decide +kernel
theorem dX9_trade_24 : decode cX9_trade 24 = .ok (.if_icmp .ne 14, 3) := by decide +kernel
theorem dX9_trade_27 : decode cX9_trade 27 = .ok (.aload_n 0, 1) := by decide +kernel
theorem dX9_trade_28 : decode cX9_trade 28 = .ok (.iload_n 3, 1) := by decide +kernel
theorem dX9_trade_29 : decode cX9_trade 29 = .ok (.invokevirtual 122, 3) := by decide +kernel
theorem dX9_trade_32 : decode cX9_trade 32 = .ok (.ifCond .ne 6, 3) := by decide +kernel
theorem dX9_trade_35 : decode cX9_trade 35 = .ok (.bipush (-2), 2) := by decide +kernel
theorem dX9_trade_37 : decode cX9_trade 37 = .ok (.ireturn, 1) := by decide +kernel
theorem dX9_trade_38 : decode cX9_trade 38 = .ok (.aload_n 0, 1) := by decide +kernel
theorem dX9_trade_39 : decode cX9_trade 39 = .ok (.getfield 19, 3) := by decide +kernel
theorem dX9_trade_42 : decode cX9_trade 42 = .ok (.getfield 167, 3) := by decide +kernel
theorem dX9_trade_45 : decode cX9_trade 45 = .ok (.iconst 3, 1) := by decide +kernel
theorem dX9_trade_46 : decode cX9_trade 46 = .ok (.if_icmp .eq 8, 3) := by decide +kernel
theorem dX9_trade_49 : decode cX9_trade 49 = .ok (.iload_n 3, 1) := by decide +kernel
theorem dX9_trade_50 : decode cX9_trade 50 = .ok (.iconst (-1), 1) := by decide +kernel
theorem dX9_trade_51 : decode cX9_trade 51 = .ok (.if_icmp .ne 18, 3) := by decide +kernel
theorem dX9_trade_54 : decode cX9_trade 54 = .ok (.iload_n 1, 1) := by decide +kernel
theorem dX9_trade_55 : decode cX9_trade 55 = .ok (.iload_n 2, 1) := by decide +kernel
theorem dX9_trade_56 : decode cX9_trade 56 = .ok (.if_icmp .eq 13, 3) := by decide +kernel
theorem dX9_trade_59 : decode cX9_trade 59 = .ok (.iload_n 1, 1) := by decide +kernel
theorem dX9_trade_60 : decode cX9_trade 60 = .ok (.iload_n 3, 1) := by decide +kernel
theorem dX9_trade_61 : decode cX9_trade 61 = .ok (.if_icmp .eq 8, 3) := by decide +kernel
theorem dX9_trade_64 : decode cX9_trade 64 = .ok (.iload_n 2, 1) := by decide +kernel
theorem dX9_trade_65 : decode cX9_trade 65 = .ok (.iload_n 3, 1) := by decide +kernel
theorem dX9_trade_66 : decode cX9_trade 66 = .ok (.if_icmp .ne 6, 3) := by decide +kernel
theorem dX9_trade_69 : decode cX9_trade 69 = .ok (.bipush (-3), 2) := by decide +kernel
theorem dX9_trade_71 : decode cX9_trade 71 = .ok (.ireturn, 1) := by decide +kernel
theorem dX9_trade_72 : decode cX9_trade 72 = .ok (.aload_n 0, 1) := by decide +kernel
theorem dX9_trade_73 : decode cX9_trade 73 = .ok (.getfield 26, 3) := by decide +kernel
theorem dX9_trade_76 : decode cX9_trade 76 = .ok (.getfield 160, 3) := by decide +kernel
theorem dX9_trade_79 : decode cX9_trade 79 = .ok (.ifCond .eq 33, 3) := by decide +kernel
theorem dX9_trade_82 : decode cX9_trade 82 = .ok (.aload_n 0, 1) := by decide +kernel
theorem dX9_trade_83 : decode cX9_trade 83 = .ok (.getfield 19, 3) := by decide +kernel
theorem dX9_trade_86 : decode cX9_trade 86 = .ok (.getfield 167, 3) := by decide +kernel
theorem dX9_trade_89 : decode cX9_trade 89 = .ok (.ifCond .eq 23, 3) := by decide +kernel
theorem dX9_trade_92 : decode cX9_trade 92 = .ok (.aload_n 0, 1) := by decide +kernel
theorem dX9_trade_93 : decode cX9_trade 93 = .ok (.getfield 43, 3) := by decide +kernel
theorem dX9_trade_96 : decode cX9_trade 96 = .ok (.aload_n 0, 1) := by decide +kernel
theorem dX9_trade_97 : decode cX9_trade 97 = .ok (.getfield 26, 3) := by decide +kernel
theorem dX9_trade_100 : decode cX9_trade 100 = .ok (.getfield 164, 3) := by decide +kernel
theorem dX9_trade_103 : decode cX9_trade 103 = .ok (.iload_n 1, 1) := by decide +kernel
theorem dX9_trade_104 : decode cX9_trade 104 = .ok (.iload_n 2, 1) := by decide +kernel
theorem dX9_trade_105 : decode cX9_trade 105 = .ok (.iload_n 3, 1) := by decide +kernel
theorem dX9_trade_106 : decode cX9_trade 106 = .ok (.invokevirtual 170, 3) := by decide +kernel
theorem dX9_trade_109 : decode cX9_trade 109 = .ok (.ifCond .ne 6, 3) := by decide +kernel
theorem dX9_trade_112 : decode cX9_trade 112 = .ok (.bipush (-4), 2) := by decide +kernel
theorem dX9_trade_114 : decode cX9_trade 114 = .ok (.ireturn, 1) := by decide +kernel
theorem dX9_trade_115 : decode cX9_trade 115 = .ok (.aload_n 0, 1) := by decide +kernel
theorem dX9_trade_116 : decode cX9_trade 116 = .ok (.getfield 26, 3) := by decide +kernel
theorem dX9_trade_119 : decode cX9_trade 119 = .ok (.getfield 164, 3) := by decide +kernel
theorem dX9_trade_122 : decode cX9_trade 122 = .ok (.iload_n 1, 1) := by decide +kernel
theorem dX9_trade_123 : decode cX9_trade 123 = .ok (.iload_n 2, 1) := by decide +kernel
theorem dX9_trade_124 : decode cX9_trade 124 = .ok (.iload_n 3, 1) := by decide +kernel
theorem dX9_trade_125 : decode cX9_trade 125 = .ok (.invokestatic 174, 3) := by decide +kernel
theorem dX9_trade_128 : decode cX9_trade 128 = .ok (.aload_n 0, 1) := by decide +kernel
theorem dX9_trade_129 : decode cX9_trade 129 = .ok (.getfield 19, 3) := by decide +kernel
theorem dX9_trade_132 : decode cX9_trade 132 = .ok (.aload_n 0, 1) := by decide +kernel
theorem dX9_trade_133 : decode cX9_trade 133 = .ok (.getfield 26, 3) := by decide +kernel
theorem dX9_trade_136 : decode cX9_trade 136 = .ok (.getfield 164, 3) := by decide +kernel
theorem dX9_trade_139 : decode cX9_trade 139 = .ok (.invokevirtual 178, 3) := by decide +kernel
theorem dX9_trade_142 : decode cX9_trade 142 = .ok (.ireturn, 1) := by decide +kernel
theorem dX9_settle_0 : decode cX9_settle 0 = .ok (.aload_n 0, 1) := by decide +kernel
theorem dX9_settle_1 : decode cX9_settle 1 = .ok (.getfield 26, 3) := by decide +kernel
theorem dX9_settle_4 : decode cX9_settle 4 = .ok (.getfield 160, 3) := by decide +kernel
theorem dX9_settle_7 : decode cX9_settle 7 = .ok (.ifCond .ne 6, 3) := by decide +kernel
theorem dX9_settle_10 : decode cX9_settle 10 = .ok (.bipush (-4), 2) := by decide +kernel
theorem dX9_settle_12 : decode cX9_settle 12 = .ok (.ireturn, 1) := by decide +kernel
theorem dX9_settle_13 : decode cX9_settle 13 = .ok (.aload_n 0, 1) := by decide +kernel
theorem dX9_settle_14 : decode cX9_settle 14 = .ok (.getfield 43, 3) := by decide +kernel
theorem dX9_settle_17 : decode cX9_settle 17 = .ok (.aload_n 0, 1) := by decide +kernel
theorem dX9_settle_18 : decode cX9_settle 18 = .ok (.getfield 26, 3) := by decide +kernel
theorem dX9_settle_21 : decode cX9_settle 21 = .ok (.getfield 164, 3) := by decide +kernel
theorem dX9_settle_24 : decode cX9_settle 24 = .ok (.aload_n 0, 1) := by decide +kernel
theorem dX9_settle_25 : decode cX9_settle 25 = .ok (.getfield 19, 3) := by decide +kernel
theorem dX9_settle_28 : decode cX9_settle 28 = .ok (.getfield 167, 3) := by decide +kernel
theorem dX9_settle_31 : decode cX9_settle 31 = .ok (.invokevirtual 182, 3) := by decide +kernel
theorem dX9_settle_34 : decode cX9_settle 34 = .ok (.ireturn, 1) := by decide +kernel
theorem dX9_dawn_0 : decode cX9_dawn 0 = .ok (.aload_n 0, 1) := by decide +kernel
theorem dX9_dawn_1 : decode cX9_dawn 1 = .ok (.getfield 26, 3) := by decide +kernel
theorem dX9_dawn_4 : decode cX9_dawn 4 = .ok (.getfield 160, 3) := by decide +kernel
theorem dX9_dawn_7 : decode cX9_dawn 7 = .ok (.ifCond .ne 6, 3) := by decide +kernel
theorem dX9_dawn_10 : decode cX9_dawn 10 = .ok (.bipush (-4), 2) := by decide +kernel
theorem dX9_dawn_12 : decode cX9_dawn 12 = .ok (.ireturn, 1) := by decide +kernel
theorem dX9_dawn_13 : decode cX9_dawn 13 = .ok (.aload_n 0, 1) := by decide +kernel
theorem dX9_dawn_14 : decode cX9_dawn 14 = .ok (.getfield 26, 3) := by decide +kernel
theorem dX9_dawn_17 : decode cX9_dawn 17 = .ok (.getfield 186, 3) := by decide +kernel
theorem dX9_dawn_20 : decode cX9_dawn 20 = .ok (.bipush 16, 2) := by decide +kernel
theorem dX9_dawn_22 : decode cX9_dawn 22 = .ok (.if_icmp .lt 6, 3) := by decide +kernel
theorem dX9_dawn_25 : decode cX9_dawn 25 = .ok (.bipush (-5), 2) := by decide +kernel
theorem dX9_dawn_27 : decode cX9_dawn 27 = .ok (.ireturn, 1) := by decide +kernel
theorem dX9_dawn_28 : decode cX9_dawn 28 = .ok (.aload_n 0, 1) := by decide +kernel
theorem dX9_dawn_29 : decode cX9_dawn 29 = .ok (.getfield 26, 3) := by decide +kernel
theorem dX9_dawn_32 : decode cX9_dawn 32 = .ok (.invokevirtual 189, 3) := by decide +kernel
theorem dX9_dawn_35 : decode cX9_dawn 35 = .ok (.aload_n 0, 1) := by decide +kernel
theorem dX9_dawn_36 : decode cX9_dawn 36 = .ok (.invokevirtual 119, 3) := by decide +kernel
theorem dX9_dawn_39 : decode cX9_dawn 39 = .ok (.aload_n 0, 1) := by decide +kernel
theorem dX9_dawn_40 : decode cX9_dawn 40 = .ok (.getfield 26, 3) := by decide +kernel
theorem dX9_dawn_43 : decode cX9_dawn 43 = .ok (.getfield 186, 3) := by decide +kernel
theorem dX9_dawn_46 : decode cX9_dawn 46 = .ok (.ireturn, 1) := by decide +kernel
theorem dX9_today_0 : decode cX9_today 0 = .ok (.iload_n 1, 1) := by decide +kernel
theorem dX9_today_1 : decode cX9_today 1 = .ok (.ifCond .lt 8, 3) := by decide +kernel
theorem dX9_today_4 : decode cX9_today 4 = .ok (.iload_n 1, 1) := by decide +kernel
theorem dX9_today_5 : decode cX9_today 5 = .ok (.iconst 2, 1) := by decide +kernel
theorem dX9_today_6 : decode cX9_today 6 = .ok (.if_icmp .le 6, 3) := by decide +kernel
theorem dX9_today_9 : decode cX9_today 9 = .ok (.bipush (-3), 2) := by decide +kernel
theorem dX9_today_11 : decode cX9_today 11 = .ok (.ireturn, 1) := by decide +kernel
theorem dX9_today_12 : decode cX9_today 12 = .ok (.aload_n 0, 1) := by decide +kernel
theorem dX9_today_13 : decode cX9_today 13 = .ok (.getfield 26, 3) := by decide +kernel
theorem dX9_today_16 : decode cX9_today 16 = .ok (.getfield 160, 3) := by decide +kernel
theorem dX9_today_19 : decode cX9_today 19 = .ok (.ifCond .ne 6, 3) := by decide +kernel
theorem dX9_today_22 : decode cX9_today 22 = .ok (.bipush (-4), 2) := by decide +kernel
theorem dX9_today_24 : decode cX9_today 24 = .ok (.ireturn, 1) := by decide +kernel
theorem dX9_today_25 : decode cX9_today 25 = .ok (.iload_n 1, 1) := by decide +kernel
theorem dX9_today_26 : decode cX9_today 26 = .ok (.lookupswitch 59 #[(0, 26), (1, 44)], 26) := by decide +kernel
theorem dX9_today_52 : decode cX9_today 52 = .ok (.aload_n 0, 1) := by decide +kernel
theorem dX9_today_53 : decode cX9_today 53 = .ok (.getfield 26, 3) := by decide +kernel
theorem dX9_today_56 : decode cX9_today 56 = .ok (.getfield 164, 3) := by decide +kernel
theorem dX9_today_59 : decode cX9_today 59 = .ok (.aload_n 0, 1) := by decide +kernel
theorem dX9_today_60 : decode cX9_today 60 = .ok (.getfield 19, 3) := by decide +kernel
theorem dX9_today_63 : decode cX9_today 63 = .ok (.getfield 102, 3) := by decide +kernel
theorem dX9_today_66 : decode cX9_today 66 = .ok (.invokestatic 192, 3) := by decide +kernel
theorem dX9_today_69 : decode cX9_today 69 = .ok (.ireturn, 1) := by decide +kernel
theorem dX9_today_70 : decode cX9_today 70 = .ok (.aload_n 0, 1) := by decide +kernel
theorem dX9_today_71 : decode cX9_today 71 = .ok (.getfield 19, 3) := by decide +kernel
theorem dX9_today_74 : decode cX9_today 74 = .ok (.aload_n 0, 1) := by decide +kernel
theorem dX9_today_75 : decode cX9_today 75 = .ok (.getfield 26, 3) := by decide +kernel
theorem dX9_today_78 : decode cX9_today 78 = .ok (.getfield 164, 3) := by decide +kernel
theorem dX9_today_81 : decode cX9_today 81 = .ok (.invokevirtual 195, 3) := by decide +kernel
theorem dX9_today_84 : decode cX9_today 84 = .ok (.ireturn, 1) := by decide +kernel
theorem dX9_today_85 : decode cX9_today 85 = .ok (.aload_n 0, 1) := by decide +kernel
theorem dX9_today_86 : decode cX9_today 86 = .ok (.getfield 19, 3) := by decide +kernel
theorem dX9_today_89 : decode cX9_today 89 = .ok (.aload_n 0, 1) := by decide +kernel
theorem dX9_today_90 : decode cX9_today 90 = .ok (.getfield 26, 3) := by decide +kernel
theorem dX9_today_93 : decode cX9_today 93 = .ok (.getfield 164, 3) := by decide +kernel
theorem dX9_today_96 : decode cX9_today 96 = .ok (.invokevirtual 178, 3) := by decide +kernel
theorem dX9_today_99 : decode cX9_today 99 = .ok (.ireturn, 1) := by decide +kernel
theorem dX9_ends_0 : decode cX9_ends 0 = .ok (.iload_n 1, 1) := by decide +kernel
theorem dX9_ends_1 : decode cX9_ends 1 = .ok (.ifCond .lt 8, 3) := by decide +kernel
theorem dX9_ends_4 : decode cX9_ends 4 = .ok (.iload_n 1, 1) := by decide +kernel
theorem dX9_ends_5 : decode cX9_ends 5 = .ok (.iconst 2, 1) := by decide +kernel
theorem dX9_ends_6 : decode cX9_ends 6 = .ok (.if_icmp .le 6, 3) := by decide +kernel
theorem dX9_ends_9 : decode cX9_ends 9 = .ok (.bipush (-3), 2) := by decide +kernel
theorem dX9_ends_11 : decode cX9_ends 11 = .ok (.ireturn, 1) := by decide +kernel
theorem dX9_ends_12 : decode cX9_ends 12 = .ok (.aload_n 0, 1) := by decide +kernel
theorem dX9_ends_13 : decode cX9_ends 13 = .ok (.getfield 26, 3) := by decide +kernel
theorem dX9_ends_16 : decode cX9_ends 16 = .ok (.getfield 160, 3) := by decide +kernel
theorem dX9_ends_19 : decode cX9_ends 19 = .ok (.ifCond .ne 6, 3) := by decide +kernel
theorem dX9_ends_22 : decode cX9_ends 22 = .ok (.bipush (-4), 2) := by decide +kernel
theorem dX9_ends_24 : decode cX9_ends 24 = .ok (.ireturn, 1) := by decide +kernel
theorem dX9_ends_25 : decode cX9_ends 25 = .ok (.aload_n 0, 1) := by decide +kernel
theorem dX9_ends_26 : decode cX9_ends 26 = .ok (.getfield 61, 3) := by decide +kernel
theorem dX9_ends_29 : decode cX9_ends 29 = .ok (.aload_n 0, 1) := by decide +kernel
theorem dX9_ends_30 : decode cX9_ends 30 = .ok (.getfield 26, 3) := by decide +kernel
theorem dX9_ends_33 : decode cX9_ends 33 = .ok (.getfield 164, 3) := by decide +kernel
theorem dX9_ends_36 : decode cX9_ends 36 = .ok (.aload_n 0, 1) := by decide +kernel
theorem dX9_ends_37 : decode cX9_ends 37 = .ok (.getfield 19, 3) := by decide +kernel
theorem dX9_ends_40 : decode cX9_ends 40 = .ok (.getfield 167, 3) := by decide +kernel
theorem dX9_ends_43 : decode cX9_ends 43 = .ok (.invokevirtual 198, 3) := by decide +kernel
theorem dX9_ends_46 : decode cX9_ends 46 = .ok (.iload_n 1, 1) := by decide +kernel
theorem dX9_ends_47 : decode cX9_ends 47 = .ok (.lookupswitch 41 #[(0, 25), (1, 33)], 25) := by decide +kernel
theorem dX9_ends_72 : decode cX9_ends 72 = .ok (.aload_n 0, 1) := by decide +kernel
theorem dX9_ends_73 : decode cX9_ends 73 = .ok (.getfield 61, 3) := by decide +kernel
theorem dX9_ends_76 : decode cX9_ends 76 = .ok (.getfield 201, 3) := by decide +kernel
theorem dX9_ends_79 : decode cX9_ends 79 = .ok (.ireturn, 1) := by decide +kernel
theorem dX9_ends_80 : decode cX9_ends 80 = .ok (.aload_n 0, 1) := by decide +kernel
theorem dX9_ends_81 : decode cX9_ends 81 = .ok (.getfield 61, 3) := by decide +kernel
theorem dX9_ends_84 : decode cX9_ends 84 = .ok (.getfield 204, 3) := by decide +kernel
theorem dX9_ends_87 : decode cX9_ends 87 = .ok (.ireturn, 1) := by decide +kernel
theorem dX9_ends_88 : decode cX9_ends 88 = .ok (.aload_n 0, 1) := by decide +kernel
