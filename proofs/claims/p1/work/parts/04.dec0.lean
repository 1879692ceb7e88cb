theorem dX0_init_0 : decode cX0_init 0 = .ok (.aload_n 0, 1) := by decide +kernel
theorem dX0_init_1 : decode cX0_init 1 = .ok (.invokespecial 3, 3) := by decide +kernel
theorem dX0_init_4 : decode cX0_init 4 = .ok (.aload_n 0, 1) := by decide +kernel
theorem dX0_init_5 : decode cX0_init 5 = .ok (.bipush 60, 2) := by decide +kernel
theorem dX0_init_7 : decode cX0_init 7 = .ok (.newarray .int, 2) := by decide +kernel
theorem dX0_init_9 : decode cX0_init 9 = .ok (.putfield 9, 3) := by decide +kernel
theorem dX0_init_12 : decode cX0_init 12 = .ok (.aload_n 0, 1) := by decide +kernel
theorem dX0_init_13 : decode cX0_init 13 = .ok (.bipush 60, 2) := by decide +kernel
theorem dX0_init_15 : decode cX0_init 15 = .ok (.newarray .int, 2) := by decide +kernel
theorem dX0_init_17 : decode cX0_init 17 = .ok (.putfield 15, 3) := by decide +kernel
theorem dX0_init_20 : decode cX0_init 20 = .ok (.aload_n 0, 1) := by decide +kernel
theorem dX0_init_21 : decode cX0_init 21 = .ok (.aload_n 1, 1) := by decide +kernel
theorem dX0_init_22 : decode cX0_init 22 = .ok (.putfield 18, 3) := by decide +kernel
theorem dX0_init_25 : decode cX0_init 25 = .ok (.aload_n 0, 1) := by decide +kernel
theorem dX0_init_26 : decode cX0_init 26 = .ok (.aload_n 2, 1) := by decide +kernel
theorem dX0_init_27 : decode cX0_init 27 = .ok (.putfield 22, 3) := by decide +kernel
theorem dX0_init_30 : decode cX0_init 30 = .ok (.aload_n 0, 1) := by decide +kernel
theorem dX0_init_31 : decode cX0_init 31 = .ok (.new 26, 3) := by decide +kernel
theorem dX0_init_34 : decode cX0_init 34 = .ok (.dup, 1) := by decide +kernel
theorem dX0_init_35 : decode cX0_init 35 = .ok (.aload_n 1, 1) := by decide +kernel
theorem dX0_init_36 : decode cX0_init 36 = .ok (.aload_n 2, 1) := by decide +kernel
theorem dX0_init_37 : decode cX0_init 37 = .ok (.invokespecial 28, 3) := by decide +kernel
theorem dX0_init_40 : decode cX0_init 40 = .ok (.putfield 31, 3) := by decide +kernel
theorem dX0_init_43 : decode cX0_init 43 = .ok (.aload_n 0, 1) := by decide +kernel
theorem dX0_init_44 : decode cX0_init 44 = .ok (.new 26, 3) := by decide +kernel
theorem dX0_init_47 : decode cX0_init 47 = .ok (.dup, 1) := by decide +kernel
theorem dX0_init_48 : decode cX0_init 48 = .ok (.aload_n 1, 1) := by decide +kernel
theorem dX0_init_49 : decode cX0_init 49 = .ok (.aload_n 2, 1) := by decide +kernel
theorem dX0_init_50 : decode cX0_init 50 = .ok (.invokespecial 28, 3) := by decide +kernel
theorem dX0_init_53 : decode cX0_init 53 = .ok (.putfield 35, 3) := by decide +kernel
theorem dX0_init_56 : decode cX0_init 56 = .ok (.return_, 1) := by decide +kernel
theorem dX0_reset_0 : decode cX0_reset 0 = .ok (.aload_n 0, 1) := by decide +kernel
theorem dX0_reset_1 : decode cX0_reset 1 = .ok (.iconst 0, 1) := by decide +kernel
theorem dX0_reset_2 : decode cX0_reset 2 = .ok (.putfield 38, 3) := by decide +kernel
theorem dX0_reset_5 : decode cX0_reset 5 = .ok (.aload_n 0, 1) := by decide +kernel
theorem dX0_reset_6 : decode cX0_reset 6 = .ok (.getfield 31, 3) := by decide +kernel
theorem dX0_reset_9 : decode cX0_reset 9 = .ok (.iconst 4, 1) := by decide +kernel
theorem dX0_reset_10 : decode cX0_reset 10 = .ok (.invokevirtual 42, 3) := by decide +kernel
theorem dX0_reset_13 : decode cX0_reset 13 = .ok (.return_, 1) := by decide +kernel
theorem dX0_has_0 : decode cX0_has 0 = .ok (.iload_n 1, 1) := by decide +kernel
theorem dX0_has_1 : decode cX0_has 1 = .ok (.ifCond .lt 15, 3) := by decide +kernel
theorem dX0_has_4 : decode cX0_has 4 = .ok (.iload_n 1, 1) := by decide +kernel
theorem dX0_has_5 : decode cX0_has 5 = .ok (.aload_n 0, 1) := by decide +kernel
theorem dX0_has_6 : decode cX0_has 6 = .ok (.getfield 38, 3) := by decide +kernel
theorem dX0_has_9 : decode cX0_has 9 = .ok (.if_icmp .ge 7, 3) := by decide +kernel
theorem dX0_has_12 : decode cX0_has 12 = .ok (.iconst 1, 1) := by decide +kernel
theorem dX0_has_13 : decode cX0_has 13 = .ok (.goto 4, 3) := by decide +kernel
theorem dX0_has_16 : decode cX0_has 16 = .ok (.iconst 0, 1) := by decide +kernel
theorem dX0_has_17 : decode cX0_has 17 = .ok (.ireturn, 1) := by decide +kernel
theorem dX0_isFull_0 : decode cX0_isFull 0 = .ok (.aload_n 0, 1) := by decide +kernel
theorem dX0_isFull_1 : decode cX0_isFull 1 = .ok (.getfield 38, 3) := by decide +kernel
theorem dX0_isFull_4 : decode cX0_isFull 4 = .ok (.bipush 60, 2) := by decide +kernel
theorem dX0_isFull_6 : decode cX0_isFull 6 = .ok (.if_icmp .lt 7, 3) := by decide +kernel
theorem dX0_isFull_9 : decode cX0_isFull 9 = .ok (.iconst 1, 1) := by decide +kernel
theorem dX0_isFull_10 : decode cX0_isFull 10 = .ok (.goto 4, 3) := by decide +kernel
theorem dX0_isFull_13 : decode cX0_isFull 13 = .ok (.iconst 0, 1) := by decide +kernel
theorem dX0_isFull_14 : decode cX0_isFull 14 = .ok (.ireturn, 1) := by decide +kernel
theorem dX0_adopt_0 : decode cX0_adopt 0 = .ok (.aload_n 0, 1) := by decide +kernel
theorem dX0_adopt_1 : decode cX0_adopt 1 = .ok (.getfield 18, 3) := by decide +kernel
theorem dX0_adopt_4 : decode cX0_adopt 4 = .ok (.iload_n 2, 1) := by decide +kernel
theorem dX0_adopt_5 : decode cX0_adopt 5 = .ok (.invokevirtual 51, 3) := by decide +kernel
theorem dX0_adopt_8 : decode cX0_adopt 8 = .ok (.istore_n 3, 1) := by decide +kernel
theorem dX0_adopt_9 : decode cX0_adopt 9 = .ok (.iload_n 1, 1) := by decide +kernel
theorem dX0_adopt_10 : decode cX0_adopt 10 = .ok (.istore 4, 2) := by decide +kernel
theorem dX0_adopt_12 : decode cX0_adopt 12 = .ok (.iload 4, 2) := by decide +kernel
theorem dX0_adopt_14 : decode cX0_adopt 14 = .ok (.ifCond .le 19, 3) := by decide +kernel
theorem dX0_adopt_17 : decode cX0_adopt 17 = .ok (.aload_n 0, 1) := by decide +kernel
theorem dX0_adopt_18 : decode cX0_adopt 18 = .ok (.iload 4, 2) := by decide +kernel
theorem dX0_adopt_20 : decode cX0_adopt 20 = .ok (.iload_n 3, 1) := by decide +kernel
theorem dX0_adopt_21 : decode cX0_adopt 21 = .ok (.invokevirtual 62, 3) := by decide +kernel
theorem dX0_adopt_24 : decode cX0_adopt 24 = .ok (.ifCond .eq 9, 3) := by decide +kernel
theorem dX0_adopt_27 : decode cX0_adopt 27 = .ok (.iinc 4 (-1), 3) := by decide +kernel
theorem dX0_adopt_30 : decode cX0_adopt 30 = .ok (.goto (-18), 3) := by decide +kernel
theorem dX0_adopt_33 : decode cX0_adopt 33 = .ok (.aload_n 0, 1) := by decide +kernel
theorem dX0_adopt_34 : decode cX0_adopt 34 = .ok (.getfield 18, 3) := by decide +kernel
theorem dX0_adopt_37 : decode cX0_adopt 37 = .ok (.aload_n 0, 1) := by decide +kernel
theorem dX0_adopt_38 : decode cX0_adopt 38 = .ok (.getfield 18, 3) := by decide +kernel
theorem dX0_adopt_41 : decode cX0_adopt 41 = .ok (.iload_n 3, 1) := by decide +kernel
theorem dX0_adopt_42 : decode cX0_adopt 42 = .ok (.iconst 1, 1) := by decide +kernel
theorem dX0_adopt_43 : decode cX0_adopt 43 = .ok (.iload 4, 2) := by decide +kernel
theorem dX0_adopt_45 : decode cX0_adopt 45 = .ok (.ishl, 1) := by decide +kernel
theorem dX0_adopt_46 : decode cX0_adopt 46 = .ok (.invokevirtual 66, 3) := by decide +kernel
theorem dX0_adopt_49 : decode cX0_adopt 49 = .ok (.putfield 69, 3) := by decide +kernel
theorem dX0_adopt_52 : decode cX0_adopt 52 = .ok (.aload_n 0, 1) := by decide +kernel
theorem dX0_adopt_53 : decode cX0_adopt 53 = .ok (.getfield 22, 3) := by decide +kernel
theorem dX0_adopt_56 : decode cX0_adopt 56 = .ok (.iload 4, 2) := by decide +kernel
theorem dX0_adopt_58 : decode cX0_adopt 58 = .ok (.iload_n 2, 1) := by decide +kernel
theorem dX0_adopt_59 : decode cX0_adopt 59 = .ok (.invokevirtual 72, 3) := by decide +kernel
theorem dX0_adopt_62 : decode cX0_adopt 62 = .ok (.pop, 1) := by decide +kernel
theorem dX0_adopt_63 : decode cX0_adopt 63 = .ok (.aload_n 0, 1) := by decide +kernel
theorem dX0_adopt_64 : decode cX0_adopt 64 = .ok (.iload 4, 2) := by decide +kernel
theorem dX0_adopt_66 : decode cX0_adopt 66 = .ok (.iload_n 2, 1) := by decide +kernel
theorem dX0_adopt_67 : decode cX0_adopt 67 = .ok (.invokevirtual 77, 3) := by decide +kernel
theorem dX0_adopt_70 : decode cX0_adopt 70 = .ok (.ifCond .eq 13, 3) := by decide +kernel
theorem dX0_adopt_73 : decode cX0_adopt 73 = .ok (.aload_n 0, 1) := by decide +kernel
theorem dX0_adopt_74 : decode cX0_adopt 74 = .ok (.getfield 18, 3) := by decide +kernel
theorem dX0_adopt_77 : decode cX0_adopt 77 = .ok (.invokevirtual 80, 3) := by decide +kernel
theorem dX0_adopt_80 : decode cX0_adopt 80 = .ok (.bipush (-5), 2) := by decide +kernel
theorem dX0_adopt_82 : decode cX0_adopt 82 = .ok (.ireturn, 1) := by decide +kernel
theorem dX0_adopt_83 : decode cX0_adopt 83 = .ok (.aload_n 0, 1) := by decide +kernel
theorem dX0_adopt_84 : decode cX0_adopt 84 = .ok (.getfield 9, 3) := by decide +kernel
theorem dX0_adopt_87 : decode cX0_adopt 87 = .ok (.aload_n 0, 1) := by decide +kernel
theorem dX0_adopt_88 : decode cX0_adopt 88 = .ok (.getfield 38, 3) := by decide +kernel
theorem dX0_adopt_91 : decode cX0_adopt 91 = .ok (.aload_n 0, 1) := by decide +kernel
theorem dX0_adopt_92 : decode cX0_adopt 92 = .ok (.getfield 18, 3) := by decide +kernel
theorem dX0_adopt_95 : decode cX0_adopt 95 = .ok (.aload_n 0, 1) := by decide +kernel
theorem dX0_adopt_96 : decode cX0_adopt 96 = .ok (.getfield 18, 3) := by decide +kernel
theorem dX0_adopt_99 : decode cX0_adopt 99 = .ok (.getfield 83, 3) := by decide +kernel
theorem dX0_adopt_102 : decode cX0_adopt 102 = .ok (.iload_n 2, 1) := by decide +kernel
theorem dX0_adopt_103 : decode cX0_adopt 103 = .ok (.invokevirtual 86, 3) := by decide +kernel
theorem dX0_adopt_106 : decode cX0_adopt 106 = .ok (.iastore, 1) := by decide +kernel
theorem dX0_adopt_107 : decode cX0_adopt 107 = .ok (.aload_n 0, 1) := by decide +kernel
theorem dX0_adopt_108 : decode cX0_adopt 108 = .ok (.getfield 15, 3) := by decide +kernel
theorem dX0_adopt_111 : decode cX0_adopt 111 = .ok (.aload_n 0, 1) := by decide +kernel
theorem dX0_adopt_112 : decode cX0_adopt 112 = .ok (.getfield 38, 3) := by decide +kernel
theorem dX0_adopt_115 : decode cX0_adopt 115 = .ok (.iload 4, 2) := by decide +kernel
theorem dX0_adopt_117 : decode cX0_adopt 117 = .ok (.iastore, 1) := by decide +kernel
theorem dX0_adopt_118 : decode cX0_adopt 118 = .ok (.aload_n 0, 1) := by decide +kernel
theorem dX0_adopt_119 : decode cX0_adopt 119 = .ok (.getfield 18, 3) := by decide +kernel
theorem dX0_adopt_122 : decode cX0_adopt 122 = .ok (.invokevirtual 89, 3) := by decide +kernel
theorem dX0_adopt_125 : decode cX0_adopt 125 = .ok (.aload_n 0, 1) := by decide +kernel
theorem dX0_adopt_126 : decode cX0_adopt 126 = .ok (.dup, 1) := by decide +kernel
theorem dX0_adopt_127 : decode cX0_adopt 127 = .ok (.getfield 38, 3) := by decide +kernel
theorem dX0_adopt_130 : decode cX0_adopt 130 = .ok (.iconst 1, 1) := by decide +kernel
theorem dX0_adopt_131 : decode cX0_adopt 131 = .ok (.iadd, 1) := by decide +kernel
theorem dX0_adopt_132 : decode cX0_adopt 132 = .ok (.putfield 38, 3) := by decide +kernel
theorem dX0_adopt_135 : decode cX0_adopt 135 = .ok (.aload_n 0, 1) := by decide +kernel
theorem dX0_adopt_136 : decode cX0_adopt 136 = .ok (.getfield 38, 3) := by decide +kernel
theorem dX0_adopt_139 : decode cX0_adopt 139 = .ok (.iconst 1, 1) := by decide +kernel
theorem dX0_adopt_140 : decode cX0_adopt 140 = .ok (.isub, 1) := by decide +kernel
theorem dX0_adopt_141 : decode cX0_adopt 141 = .ok (.ireturn, 1) := by decide +kernel
theorem dX0_isWide_0 : decode cX0_isWide 0 = .ok (.aload_n 0, 1) := by decide +kernel
theorem dX0_isWide_1 : decode cX0_isWide 1 = .ok (.getfield 18, 3) := by decide +kernel
theorem dX0_isWide_4 : decode cX0_isWide 4 = .ok (.getfield 69, 3) := by decide +kernel
theorem dX0_isWide_7 : decode cX0_isWide 7 = .ok (.istore_n 3, 1) := by decide +kernel
theorem dX0_isWide_8 : decode cX0_isWide 8 = .ok (.aload_n 0, 1) := by decide +kernel
theorem dX0_isWide_9 : decode cX0_isWide 9 = .ok (.getfield 18, 3) := by decide +kernel
theorem dX0_isWide_12 : decode cX0_isWide 12 = .ok (.iload_n 2, 1) := by decide +kernel
theorem dX0_isWide_13 : decode cX0_isWide 13 = .ok (.invokevirtual 51, 3) := by decide +kernel
theorem dX0_isWide_16 : decode cX0_isWide 16 = .ok (.istore 4, 2) := by decide +kernel
theorem dX0_isWide_18 : decode cX0_isWide 18 = .ok (.iconst 0, 1) := by decide +kernel
theorem dX0_isWide_19 : decode cX0_isWide 19 = .ok (.istore 5, 2) := by decide +kernel
theorem dX0_isWide_21 : decode cX0_isWide 21 = .ok (.iconst 0, 1) := by decide +kernel
theorem dX0_isWide_22 : decode cX0_isWide 22 = .ok (.istore 6, 2) := by decide +kernel
theorem dX0_isWide_24 : decode cX0_isWide 24 = .ok (.iload 6, 2) := by decide +kernel
theorem dX0_isWide_26 : decode cX0_isWide 26 = .ok (.iconst 1, 1) := by decide +kernel
theorem dX0_isWide_27 : decode cX0_isWide 27 = .ok (.iload_n 1, 1) := by decide +kernel
theorem dX0_isWide_28 : decode cX0_isWide 28 = .ok (.ishl, 1) := by decide +kernel
theorem dX0_isWide_29 : decode cX0_isWide 29 = .ok (.if_icmp .ge 56, 3) := by decide +kernel
theorem dX0_isWide_32 : decode cX0_isWide 32 = .ok (.iload 5, 2) := by decide +kernel
theorem dX0_isWide_34 : decode cX0_isWide 34 = .ok (.ifCond .ne 51, 3) := by decide +kernel
theorem dX0_isWide_37 : decode cX0_isWide 37 = .ok (.aload_n 0, 1) := by decide +kernel
theorem dX0_isWide_38 : decode cX0_isWide 38 = .ok (.getfield 18, 3) := by decide +kernel
theorem dX0_isWide_41 : decode cX0_isWide 41 = .ok (.aload_n 0, 1) := by decide +kernel
theorem dX0_isWide_42 : decode cX0_isWide 42 = .ok (.getfield 22, 3) := by decide +kernel
theorem dX0_isWide_45 : decode cX0_isWide 45 = .ok (.iload 4, 2) := by decide +kernel
theorem dX0_isWide_47 : decode cX0_isWide 47 = .ok (.iload_n 2, 1) := by decide +kernel
theorem dX0_isWide_48 : decode cX0_isWide 48 = .ok (.iload 6, 2) := by decide +kernel
theorem dX0_isWide_50 : decode cX0_isWide 50 = .ok (.invokevirtual 95, 3) := by decide +kernel
theorem dX0_isWide_53 : decode cX0_isWide 53 = .ok (.bipush 60, 2) := by decide +kernel
theorem dX0_isWide_55 : decode cX0_isWide 55 = .ok (.invokevirtual 99, 3) := by decide +kernel
theorem dX0_isWide_58 : decode cX0_isWide 58 = .ok (.istore 5, 2) := by decide +kernel
theorem dX0_isWide_60 : decode cX0_isWide 60 = .ok (.aload_n 0, 1) := by decide +kernel
theorem dX0_isWide_61 : decode cX0_isWide 61 = .ok (.getfield 18, 3) := by decide +kernel
theorem dX0_isWide_64 : decode cX0_isWide 64 = .ok (.iload_n 3, 1) := by decide +kernel
theorem dX0_isWide_65 : decode cX0_isWide 65 = .ok (.putfield 69, 3) := by decide +kernel
theorem dX0_isWide_68 : decode cX0_isWide 68 = .ok (.aload_n 0, 1) := by decide +kernel
theorem dX0_isWide_69 : decode cX0_isWide 69 = .ok (.getfield 18, 3) := by decide +kernel
theorem dX0_isWide_72 : decode cX0_isWide 72 = .ok (.iload 4, 2) := by decide +kernel
theorem dX0_isWide_74 : decode cX0_isWide 74 = .ok (.invokevirtual 51, 3) := by decide +kernel
theorem dX0_isWide_77 : decode cX0_isWide 77 = .ok (.istore 4, 2) := by decide +kernel
theorem dX0_isWide_79 : decode cX0_isWide 79 = .ok (.iinc 6 1, 3) := by decide +kernel
theorem dX0_isWide_82 : decode cX0_isWide 82 = .ok (.goto (-58), 3) := by decide +kernel
theorem dX0_isWide_85 : decode cX0_isWide 85 = .ok (.iload 5, 2) := by decide +kernel
theorem dX0_isWide_87 : decode cX0_isWide 87 = .ok (.ireturn, 1) := by decide +kernel
theorem dX1_init_0 : decode cX1_init 0 = .ok (.aload_n 0, 1) := by decide +kernel
theorem dX1_init_1 : decode cX1_init 1 = .ok (.invokespecial 3, 3) := by decide +kernel
theorem dX1_init_4 : decode cX1_init 4 = .ok (.aload_n 0, 1) := by decide +kernel
theorem dX1_init_5 : decode cX1_init 5 = .ok (.iconst 5, 1) := by decide +kernel
theorem dX1_init_6 : decode cX1_init 6 = .ok (.newarray .int, 2) := by decide +kernel
theorem dX1_init_8 : decode cX1_init 8 = .ok (.putfield 9, 3) := by decide +kernel
theorem dX1_init_11 : decode cX1_init 11 = .ok (.aload_n 0, 1) := by decide +kernel
theorem dX1_init_12 : decode cX1_init 12 = .ok (.bipush 16, 2) := by decide +kernel
theorem dX1_init_14 : decode cX1_init 14 = .ok (.newarray .int, 2) := by decide +kernel
theorem dX1_init_16 : decode cX1_init 16 = .ok (.putfield 15, 3) := by decide +kernel
theorem dX1_init_19 : decode cX1_init 19 = .ok (.aload_n 0, 1) := by decide +kernel
theorem dX1_init_20 : decode cX1_init 20 = .ok (.aload_n 1, 1) := by decide +kernel
theorem dX1_init_21 : decode cX1_init 21 = .ok (.putfield 18, 3) := by decide +kernel
theorem dX1_init_24 : decode cX1_init 24 = .ok (.return_, 1) := by decide +kernel
theorem dX1_reset_0 : decode cX1_reset 0 = .ok (.aload_n 0, 1) := by decide +kernel
theorem dX1_reset_1 : decode cX1_reset 1 = .ok (.iconst 0, 1) := by decide +kernel
theorem dX1_reset_2 : decode cX1_reset 2 = .ok (.putfield 22, 3) := by decide +kernel
theorem dX1_reset_5 : decode cX1_reset 5 = .ok (.aload_n 0, 1) := by decide +kernel
theorem dX1_reset_6 : decode cX1_reset 6 = .ok (.getfield 15, 3) := by decide +kernel
theorem dX1_reset_9 : decode cX1_reset 9 = .ok (.iconst 0, 1) := by decide +kernel
theorem dX1_reset_10 : decode cX1_reset 10 = .ok (.sipush 128, 3) := by decide +kernel
theorem dX1_reset_13 : decode cX1_reset 13 = .ok (.iastore, 1) := by decide +kernel
theorem dX1_reset_14 : decode cX1_reset 14 = .ok (.return_, 1) := by decide +kernel
theorem dX1_part_0 : decode cX1_part 0 = .ok (.aload_n 0, 1) := by decide +kernel
theorem dX1_part_1 : decode cX1_part 1 = .ok (.getfield 18, 3) := by decide +kernel
theorem dX1_part_4 : decode cX1_part 4 = .ok (.getfield 44, 3) := by decide +kernel
theorem dX1_part_7 : decode cX1_part 7 = .ok (.istore 4, 2) := by decide +kernel
theorem dX1_part_9 : decode cX1_part 9 = .ok (.aload_n 0, 1) := by decide +kernel
theorem dX1_part_10 : decode cX1_part 10 = .ok (.getfield 18, 3) := by decide +kernel
theorem dX1_part_13 : decode cX1_part 13 = .ok (.iload_n 1, 1) := by decide +kernel
theorem dX1_part_14 : decode cX1_part 14 = .ok (.aload_n 0, 1) := by decide +kernel
theorem dX1_part_15 : decode cX1_part 15 = .ok (.getfield 15, 3) := by decide +kernel
theorem dX1_part_18 : decode cX1_part 18 = .ok (.iload_n 3, 1) := by decide +kernel
theorem dX1_part_19 : decode cX1_part 19 = .ok (.iaload, 1) := by decide +kernel
theorem dX1_part_20 : decode cX1_part 20 = .ok (.invokevirtual 40, 3) := by decide +kernel
theorem dX1_part_23 : decode cX1_part 23 = .ok (.istore 5, 2) := by decide +kernel
theorem dX1_part_25 : decode cX1_part 25 = .ok (.aload_n 0, 1) := by decide +kernel
theorem dX1_part_26 : decode cX1_part 26 = .ok (.getfield 18, 3) := by decide +kernel
theorem dX1_part_29 : decode cX1_part 29 = .ok (.iload 4, 2) := by decide +kernel
theorem dX1_part_31 : decode cX1_part 31 = .ok (.aload_n 0, 1) := by decide +kernel
theorem dX1_part_32 : decode cX1_part 32 = .ok (.getfield 18, 3) := by decide +kernel
theorem dX1_part_35 : decode cX1_part 35 = .ok (.iload 5, 2) := by decide +kernel
theorem dX1_part_37 : decode cX1_part 37 = .ok (.iload_n 2, 1) := by decide +kernel
theorem dX1_part_38 : decode cX1_part 38 = .ok (.invokevirtual 56, 3) := by decide +kernel
theorem dX1_part_41 : decode cX1_part 41 = .ok (.invokevirtual 53, 3) := by decide +kernel
theorem dX1_part_44 : decode cX1_part 44 = .ok (.ireturn, 1) := by decide +kernel
theorem dX1_reduced_0 : decode cX1_reduced 0 = .ok (.iconst 1, 1) := by decide +kernel
theorem dX1_reduced_1 : decode cX1_reduced 1 = .ok (.iload_n 1, 1) := by decide +kernel
theorem dX1_reduced_2 : decode cX1_reduced 2 = .ok (.ishl, 1) := by decide +kernel
theorem dX1_reduced_3 : decode cX1_reduced 3 = .ok (.istore_n 3, 1) := by decide +kernel
theorem dX1_reduced_4 : decode cX1_reduced 4 = .ok (.aload_n 0, 1) := by decide +kernel
theorem dX1_reduced_5 : decode cX1_reduced 5 = .ok (.getfield 18, 3) := by decide +kernel
theorem dX1_reduced_8 : decode cX1_reduced 8 = .ok (.getfield 44, 3) := by decide +kernel
theorem dX1_reduced_11 : decode cX1_reduced 11 = .ok (.istore 4, 2) := by decide +kernel
theorem dX1_reduced_13 : decode cX1_reduced 13 = .ok (.aload_n 0, 1) := by decide +kernel
theorem dX1_reduced_14 : decode cX1_reduced 14 = .ok (.getfield 18, 3) := by decide +kernel
theorem dX1_reduced_17 : decode cX1_reduced 17 = .ok (.iload_n 2, 1) := by decide +kernel
theorem dX1_reduced_18 : decode cX1_reduced 18 = .ok (.iconst 1, 1) := by decide +kernel
theorem dX1_reduced_19 : decode cX1_reduced 19 = .ok (.invokevirtual 59, 3) := by decide +kernel
theorem dX1_reduced_22 : decode cX1_reduced 22 = .ok (.istore 5, 2) := by decide +kernel
theorem dX1_reduced_24 : decode cX1_reduced 24 = .ok (.aload_n 0, 1) := by decide +kernel
theorem dX1_reduced_25 : decode cX1_reduced 25 = .ok (.getfield 18, 3) := by decide +kernel
theorem dX1_reduced_28 : decode cX1_reduced 28 = .ok (.iload_n 2, 1) := by decide +kernel
theorem dX1_reduced_29 : decode cX1_reduced 29 = .ok (.invokevirtual 28, 3) := by decide +kernel
theorem dX1_reduced_32 : decode cX1_reduced 32 = .ok (.istore 6, 2) := by decide +kernel
theorem dX1_reduced_34 : decode cX1_reduced 34 = .ok (.iconst 0, 1) := by decide +kernel
theorem dX1_reduced_35 : decode cX1_reduced 35 = .ok (.istore 7, 2) := by decide +kernel
theorem dX1_reduced_37 : decode cX1_reduced 37 = .ok (.iload 7, 2) := by decide +kernel
theorem dX1_reduced_39 : decode cX1_reduced 39 = .ok (.iload_n 3, 1) := by decide +kernel
theorem dX1_reduced_40 : decode cX1_reduced 40 = .ok (.if_icmp .ge 63, 3) := by decide +kernel
theorem dX1_reduced_43 : decode cX1_reduced 43 = .ok (.aload_n 0, 1) := by decide +kernel
theorem dX1_reduced_44 : decode cX1_reduced 44 = .ok (.iload 5, 2) := by decide +kernel
theorem dX1_reduced_46 : decode cX1_reduced 46 = .ok (.invokevirtual 92, 3) := by decide +kernel
theorem dX1_reduced_49 : decode cX1_reduced 49 = .ok (.ifCond .ne 54, 3) := by decide +kernel
theorem dX1_reduced_52 : decode cX1_reduced 52 = .ok (.aload_n 0, 1) := by decide +kernel
theorem dX1_reduced_53 : decode cX1_reduced 53 = .ok (.getfield 18, 3) := by decide +kernel
theorem dX1_reduced_56 : decode cX1_reduced 56 = .ok (.getfield 96, 3) := by decide +kernel
theorem dX1_reduced_59 : decode cX1_reduced 59 = .ok (.iload 6, 2) := by decide +kernel
theorem dX1_reduced_61 : decode cX1_reduced 61 = .ok (.iaload, 1) := by decide +kernel
theorem dX1_reduced_62 : decode cX1_reduced 62 = .ok (.ifCond .eq 24, 3) := by decide +kernel
theorem dX1_reduced_65 : decode cX1_reduced 65 = .ok (.aload_n 0, 1) := by decide +kernel
theorem dX1_reduced_66 : decode cX1_reduced 66 = .ok (.getfield 18, 3) := by decide +kernel
theorem dX1_reduced_69 : decode cX1_reduced 69 = .ok (.iload 4, 2) := by decide +kernel
theorem dX1_reduced_71 : decode cX1_reduced 71 = .ok (.aload_n 0, 1) := by decide +kernel
theorem dX1_reduced_72 : decode cX1_reduced 72 = .ok (.getfield 18, 3) := by decide +kernel
theorem dX1_reduced_75 : decode cX1_reduced 75 = .ok (.iload 6, 2) := by decide +kernel
theorem dX1_reduced_77 : decode cX1_reduced 77 = .ok (.iload 5, 2) := by decide +kernel
theorem dX1_reduced_79 : decode cX1_reduced 79 = .ok (.invokevirtual 99, 3) := by decide +kernel
theorem dX1_reduced_82 : decode cX1_reduced 82 = .ok (.invokevirtual 53, 3) := by decide +kernel
theorem dX1_reduced_85 : decode cX1_reduced 85 = .ok (.pop, 1) := by decide +kernel
theorem dX1_reduced_86 : decode cX1_reduced 86 = .ok (.aload_n 0, 1) := by decide +kernel
theorem dX1_reduced_87 : decode cX1_reduced 87 = .ok (.getfield 18, 3) := by decide +kernel
theorem dX1_reduced_90 : decode cX1_reduced 90 = .ok (.iload 6, 2) := by decide +kernel
theorem dX1_reduced_92 : decode cX1_reduced 92 = .ok (.invokevirtual 28, 3) := by decide +kernel
theorem dX1_reduced_95 : decode cX1_reduced 95 = .ok (.istore 6, 2) := by decide +kernel
theorem dX1_reduced_97 : decode cX1_reduced 97 = .ok (.iinc 7 1, 3) := by decide +kernel
theorem dX1_reduced_100 : decode cX1_reduced 100 = .ok (.goto (-63), 3) := by decide +kernel
theorem dX1_reduced_103 : decode cX1_reduced 103 = .ok (.aload_n 0, 1) := by decide +kernel
theorem dX1_reduced_104 : decode cX1_reduced 104 = .ok (.iload 5, 2) := by decide +kernel
theorem dX1_reduced_106 : decode cX1_reduced 106 = .ok (.invokevirtual 92, 3) := by decide +kernel
theorem dX1_reduced_109 : decode cX1_reduced 109 = .ok (.ifCond .eq 33, 3) := by decide +kernel
theorem dX1_reduced_112 : decode cX1_reduced 112 = .ok (.aload_n 0, 1) := by decide +kernel
theorem dX1_reduced_113 : decode cX1_reduced 113 = .ok (.getfield 18, 3) := by decide +kernel
theorem dX1_reduced_116 : decode cX1_reduced 116 = .ok (.iload 4, 2) := by decide +kernel
theorem dX1_reduced_118 : decode cX1_reduced 118 = .ok (.putfield 44, 3) := by decide +kernel
theorem dX1_reduced_121 : decode cX1_reduced 121 = .ok (.aload_n 0, 1) := by decide +kernel
theorem dX1_reduced_122 : decode cX1_reduced 122 = .ok (.getfield 18, 3) := by decide +kernel
theorem dX1_reduced_125 : decode cX1_reduced 125 = .ok (.iload_n 2, 1) := by decide +kernel
theorem dX1_reduced_126 : decode cX1_reduced 126 = .ok (.invokevirtual 102, 3) := by decide +kernel
theorem dX1_reduced_129 : decode cX1_reduced 129 = .ok (.ifCond .eq 11, 3) := by decide +kernel
theorem dX1_reduced_132 : decode cX1_reduced 132 = .ok (.aload_n 0, 1) := by decide +kernel
theorem dX1_reduced_133 : decode cX1_reduced 133 = .ok (.getfield 18, 3) := by decide +kernel
theorem dX1_reduced_136 : decode cX1_reduced 136 = .ok (.iload_n 2, 1) := by decide +kernel
theorem dX1_reduced_137 : decode cX1_reduced 137 = .ok (.invokevirtual 86, 3) := by decide +kernel
theorem dX1_reduced_140 : decode cX1_reduced 140 = .ok (.iload_n 2, 1) := by decide +kernel
theorem dX1_reduced_141 : decode cX1_reduced 141 = .ok (.ireturn, 1) := by decide +kernel
theorem dX1_reduced_142 : decode cX1_reduced 142 = .ok (.aload_n 0, 1) := by decide +kernel
theorem dX1_reduced_143 : decode cX1_reduced 143 = .ok (.getfield 18, 3) := by decide +kernel
theorem dX1_reduced_146 : decode cX1_reduced 146 = .ok (.iload_n 2, 1) := by decide +kernel
theorem dX1_reduced_147 : decode cX1_reduced 147 = .ok (.invokevirtual 102, 3) := by decide +kernel
theorem dX1_reduced_150 : decode cX1_reduced 150 = .ok (.aload_n 0, 1) := by decide +kernel
theorem dX1_reduced_151 : decode cX1_reduced 151 = .ok (.getfield 18, 3) := by decide +kernel
theorem dX1_reduced_154 : decode cX1_reduced 154 = .ok (.iload 5, 2) := by decide +kernel
theorem dX1_reduced_156 : decode cX1_reduced 156 = .ok (.invokevirtual 102, 3) := by decide +kernel
theorem dX1_reduced_159 : decode cX1_reduced 159 = .ok (.if_icmp .eq 12, 3) := by decide +kernel
theorem dX1_reduced_162 : decode cX1_reduced 162 = .ok (.aload_n 0, 1) := by decide +kernel
theorem dX1_reduced_163 : decode cX1_reduced 163 = .ok (.getfield 18, 3) := by decide +kernel
theorem dX1_reduced_166 : decode cX1_reduced 166 = .ok (.iload 5, 2) := by decide +kernel
theorem dX1_reduced_168 : decode cX1_reduced 168 = .ok (.invokevirtual 86, 3) := by decide +kernel
theorem dX1_reduced_171 : decode cX1_reduced 171 = .ok (.aload_n 0, 1) := by decide +kernel
theorem dX1_reduced_172 : decode cX1_reduced 172 = .ok (.getfield 18, 3) := by decide +kernel
theorem dX1_reduced_175 : decode cX1_reduced 175 = .ok (.getfield 44, 3) := by decide +kernel
theorem dX1_reduced_178 : decode cX1_reduced 178 = .ok (.istore 7, 2) := by decide +kernel
theorem dX1_reduced_180 : decode cX1_reduced 180 = .ok (.iload_n 2, 1) := by decide +kernel
theorem dX1_reduced_181 : decode cX1_reduced 181 = .ok (.istore 6, 2) := by decide +kernel
theorem dX1_reduced_183 : decode cX1_reduced 183 = .ok (.iconst 0, 1) := by decide +kernel
theorem dX1_reduced_184 : decode cX1_reduced 184 = .ok (.istore 8, 2) := by decide +kernel
theorem dX1_reduced_186 : decode cX1_reduced 186 = .ok (.iload 8, 2) := by decide +kernel
theorem dX1_reduced_188 : decode cX1_reduced 188 = .ok (.iload_n 3, 1) := by decide +kernel
theorem dX1_reduced_189 : decode cX1_reduced 189 = .ok (.if_icmp .gt 45, 3) := by decide +kernel
theorem dX1_reduced_192 : decode cX1_reduced 192 = .ok (.aload_n 0, 1) := by decide +kernel
theorem dX1_reduced_193 : decode cX1_reduced 193 = .ok (.getfield 18, 3) := by decide +kernel
theorem dX1_reduced_196 : decode cX1_reduced 196 = .ok (.aload_n 0, 1) := by decide +kernel
theorem dX1_reduced_197 : decode cX1_reduced 197 = .ok (.getfield 18, 3) := by decide +kernel
theorem dX1_reduced_200 : decode cX1_reduced 200 = .ok (.aload_n 0, 1) := by decide +kernel
theorem dX1_reduced_201 : decode cX1_reduced 201 = .ok (.getfield 18, 3) := by decide +kernel
theorem dX1_reduced_204 : decode cX1_reduced 204 = .ok (.iload 6, 2) := by decide +kernel
theorem dX1_reduced_206 : decode cX1_reduced 206 = .ok (.iload 5, 2) := by decide +kernel
theorem dX1_reduced_208 : decode cX1_reduced 208 = .ok (.invokevirtual 105, 3) := by decide +kernel
theorem dX1_reduced_211 : decode cX1_reduced 211 = .ok (.invokevirtual 28, 3) := by decide +kernel
theorem dX1_reduced_214 : decode cX1_reduced 214 = .ok (.putfield 44, 3) := by decide +kernel
theorem dX1_reduced_217 : decode cX1_reduced 217 = .ok (.aload_n 0, 1) := by decide +kernel
theorem dX1_reduced_218 : decode cX1_reduced 218 = .ok (.getfield 18, 3) := by decide +kernel
theorem dX1_reduced_221 : decode cX1_reduced 221 = .ok (.iload 6, 2) := by decide +kernel
theorem dX1_reduced_223 : decode cX1_reduced 223 = .ok (.invokevirtual 28, 3) := by decide +kernel
theorem dX1_reduced_226 : decode cX1_reduced 226 = .ok (.istore 6, 2) := by decide +kernel
theorem dX1_reduced_228 : decode cX1_reduced 228 = .ok (.iinc 8 1, 3) := by decide +kernel
theorem dX1_reduced_231 : decode cX1_reduced 231 = .ok (.goto (-45), 3) := by decide +kernel
theorem dX1_reduced_234 : decode cX1_reduced 234 = .ok (.aload_n 0, 1) := by decide +kernel
theorem dX1_reduced_235 : decode cX1_reduced 235 = .ok (.getfield 18, 3) := by decide +kernel
theorem dX1_reduced_238 : decode cX1_reduced 238 = .ok (.iload_n 2, 1) := by decide +kernel
theorem dX1_reduced_239 : decode cX1_reduced 239 = .ok (.iload 7, 2) := by decide +kernel
theorem dX1_reduced_241 : decode cX1_reduced 241 = .ok (.invokevirtual 53, 3) := by decide +kernel
theorem dX1_reduced_244 : decode cX1_reduced 244 = .ok (.ireturn, 1) := by decide +kernel
theorem dX1_isOne_0 : decode cX1_isOne 0 = .ok (.aload_n 0, 1) := by decide +kernel
theorem dX1_isOne_1 : decode cX1_isOne 1 = .ok (.getfield 18, 3) := by decide +kernel
theorem dX1_isOne_4 : decode cX1_isOne 4 = .ok (.getfield 96, 3) := by decide +kernel
theorem dX1_isOne_7 : decode cX1_isOne 7 = .ok (.iload_n 1, 1) := by decide +kernel
theorem dX1_isOne_8 : decode cX1_isOne 8 = .ok (.iaload, 1) := by decide +kernel
theorem dX1_isOne_9 : decode cX1_isOne 9 = .ok (.iconst 2, 1) := by decide +kernel
theorem dX1_isOne_10 : decode cX1_isOne 10 = .ok (.if_icmp .ne 22, 3) := by decide +kernel
theorem dX1_isOne_13 : decode cX1_isOne 13 = .ok (.aload_n 0, 1) := by decide +kernel
theorem dX1_isOne_14 : decode cX1_isOne 14 = .ok (.getfield 18, 3) := by decide +kernel
theorem dX1_isOne_17 : decode cX1_isOne 17 = .ok (.getfield 96, 3) := by decide +kernel
theorem dX1_isOne_20 : decode cX1_isOne 20 = .ok (.iload_n 1, 1) := by decide +kernel
theorem dX1_isOne_21 : decode cX1_isOne 21 = .ok (.iconst 1, 1) := by decide +kernel
theorem dX1_isOne_22 : decode cX1_isOne 22 = .ok (.iadd, 1) := by decide +kernel
theorem dX1_isOne_23 : decode cX1_isOne 23 = .ok (.iaload, 1) := by decide +kernel
theorem dX1_isOne_24 : decode cX1_isOne 24 = .ok (.iconst 1, 1) := by decide +kernel
theorem dX1_isOne_25 : decode cX1_isOne 25 = .ok (.if_icmp .ne 7, 3) := by decide +kernel
theorem dX1_isOne_28 : decode cX1_isOne 28 = .ok (.iconst 1, 1) := by decide +kernel
theorem dX1_isOne_29 : decode cX1_isOne 29 = .ok (.goto 4, 3) := by decide +kernel
theorem dX1_isOne_32 : decode cX1_isOne 32 = .ok (.iconst 0, 1) := by decide +kernel
theorem dX1_isOne_33 : decode cX1_isOne 33 = .ok (.ireturn, 1) := by decide +kernel
theorem dX2_init_0 : decode cX2_init 0 = .ok (.aload_n 0, 1) := by decide +kernel
theorem dX2_init_1 : decode cX2_init 1 = .ok (.invokespecial 3, 3) := by decide +kernel
theorem dX2_init_4 : decode cX2_init 4 = .ok (.aload_n 0, 1) := by decide +kernel
theorem dX2_init_5 : decode cX2_init 5 = .ok (.bipush 17, 2) := by decide +kernel
theorem dX2_init_7 : decode cX2_init 7 = .ok (.newarray .int, 2) := by decide +kernel
theorem dX2_init_9 : decode cX2_init 9 = .ok (.putfield 9, 3) := by decide +kernel
theorem dX2_init_12 : decode cX2_init 12 = .ok (.aload_n 0, 1) := by decide +kernel
theorem dX2_init_13 : decode cX2_init 13 = .ok (.bipush 17, 2) := by decide +kernel
theorem dX2_init_15 : decode cX2_init 15 = .ok (.newarray .int, 2) := by decide +kernel
theorem dX2_init_17 : decode cX2_init 17 = .ok (.putfield 15, 3) := by decide +kernel
theorem dX2_init_20 : decode cX2_init 20 = .ok (.aload_n 0, 1) := by decide +kernel
theorem dX2_init_21 : decode cX2_init 21 = .ok (.aload_n 1, 1) := by decide +kernel
theorem dX2_init_22 : decode cX2_init 22 = .ok (.putfield 18, 3) := by decide +kernel
theorem dX2_init_25 : decode cX2_init 25 = .ok (.aload_n 0, 1) := by decide +kernel
theorem dX2_init_26 : decode cX2_init 26 = .ok (.aload_n 2, 1) := by decide +kernel
theorem dX2_init_27 : decode cX2_init 27 = .ok (.putfield 22, 3) := by decide +kernel
theorem dX2_init_30 : decode cX2_init 30 = .ok (.return_, 1) := by decide +kernel
theorem dX3_init_0 : decode cX3_init 0 = .ok (.aload_n 0, 1) := by decide +kernel
theorem dX3_init_1 : decode cX3_init 1 = .ok (.invokespecial 5, 3) := by decide +kernel
theorem dX3_init_4 : decode cX3_init 4 = .ok (.aload_n 0, 1) := by decide +kernel
theorem dX3_init_5 : decode cX3_init 5 = .ok (.sipush 8192, 3) := by decide +kernel
theorem dX3_init_8 : decode cX3_init 8 = .ok (.newarray .int, 2) := by decide +kernel
theorem dX3_init_10 : decode cX3_init 10 = .ok (.putfield 11, 3) := by decide +kernel
theorem dX3_init_13 : decode cX3_init 13 = .ok (.return_, 1) := by decide +kernel
theorem dX3_reset_0 : decode cX3_reset 0 = .ok (.aload_n 0, 1) := by decide +kernel
theorem dX3_reset_1 : decode cX3_reset 1 = .ok (.iconst 0, 1) := by decide +kernel
theorem dX3_reset_2 : decode cX3_reset 2 = .ok (.putfield 15, 3) := by decide +kernel
theorem dX3_reset_5 : decode cX3_reset 5 = .ok (.aload_n 0, 1) := by decide +kernel
theorem dX3_reset_6 : decode cX3_reset 6 = .ok (.lconst 0, 1) := by decide +kernel
theorem dX3_reset_7 : decode cX3_reset 7 = .ok (.invokevirtual 19, 3) := by decide +kernel
theorem dX3_reset_10 : decode cX3_reset 10 = .ok (.pop, 1) := by decide +kernel
theorem dX3_reset_11 : decode cX3_reset 11 = .ok (.aload_n 0, 1) := by decide +kernel
theorem dX3_reset_12 : decode cX3_reset 12 = .ok (.bipush 64, 2) := by decide +kernel
theorem dX3_reset_14 : decode cX3_reset 14 = .ok (.putfield 15, 3) := by decide +kernel
theorem dX3_reset_17 : decode cX3_reset 17 = .ok (.aload_n 0, 1) := by decide +kernel
theorem dX3_reset_18 : decode cX3_reset 18 = .ok (.lconst 1, 1) := by decide +kernel
theorem dX3_reset_19 : decode cX3_reset 19 = .ok (.invokevirtual 19, 3) := by decide +kernel
theorem dX3_reset_22 : decode cX3_reset 22 = .ok (.pop, 1) := by decide +kernel
theorem dX3_reset_23 : decode cX3_reset 23 = .ok (.aload_n 0, 1) := by decide +kernel
theorem dX3_reset_24 : decode cX3_reset 24 = .ok (.sipush 128, 3) := by decide +kernel
theorem dX3_reset_27 : decode cX3_reset 27 = .ok (.putfield 15, 3) := by decide +kernel
theorem dX3_reset_30 : decode cX3_reset 30 = .ok (.aload_n 0, 1) := by decide +kernel
theorem dX3_reset_31 : decode cX3_reset 31 = .ok (.lconst 1, 1) := by decide +kernel
theorem dX3_reset_32 : decode cX3_reset 32 = .ok (.invokevirtual 19, 3) := by decide +kernel
theorem dX3_reset_35 : decode cX3_reset 35 = .ok (.pop, 1) := by decide +kernel
theorem dX3_reset_36 : decode cX3_reset 36 = .ok (.return_, 1) := by decide +kernel
theorem dX3_settle_0 : decode cX3_settle 0 = .ok (.aload_n 0, 1) := by decide +kernel
theorem dX3_settle_1 : decode cX3_settle 1 = .ok (.aload_n 0, 1) := by decide +kernel
theorem dX3_settle_2 : decode cX3_settle 2 = .ok (.getfield 15, 3) := by decide +kernel
theorem dX3_settle_5 : decode cX3_settle 5 = .ok (.putfield 23, 3) := by decide +kernel
theorem dX3_settle_8 : decode cX3_settle 8 = .ok (.aload_n 0, 1) := by decide +kernel
theorem dX3_settle_9 : decode cX3_settle 9 = .ok (.aload_n 0, 1) := by decide +kernel
theorem dX3_settle_10 : decode cX3_settle 10 = .ok (.getfield 15, 3) := by decide +kernel
theorem dX3_settle_13 : decode cX3_settle 13 = .ok (.putfield 26, 3) := by decide +kernel
theorem dX3_settle_16 : decode cX3_settle 16 = .ok (.return_, 1) := by decide +kernel
theorem dX3_rest_0 : decode cX3_rest 0 = .ok (.aload_n 0, 1) := by decide +kernel
theorem dX3_rest_1 : decode cX3_rest 1 = .ok (.aload_n 0, 1) := by decide +kernel
theorem dX3_rest_2 : decode cX3_rest 2 = .ok (.getfield 26, 3) := by decide +kernel
theorem dX3_rest_5 : decode cX3_rest 5 = .ok (.putfield 15, 3) := by decide +kernel
theorem dX3_rest_8 : decode cX3_rest 8 = .ok (.return_, 1) := by decide +kernel
theorem dX3_room_0 : decode cX3_room 0 = .ok (.aload_n 0, 1) := by decide +kernel
theorem dX3_room_1 : decode cX3_room 1 = .ok (.getfield 15, 3) := by decide +kernel
theorem dX3_room_4 : decode cX3_room 4 = .ok (.iload_n 1, 1) := by decide +kernel
theorem dX3_room_5 : decode cX3_room 5 = .ok (.iadd, 1) := by decide +kernel
theorem dX3_room_6 : decode cX3_room 6 = .ok (.istore_n 2, 1) := by decide +kernel
theorem dX3_room_7 : decode cX3_room 7 = .ok (.iload_n 2, 1) := by decide +kernel
theorem dX3_room_8 : decode cX3_room 8 = .ok (.aload_n 0, 1) := by decide +kernel
theorem dX3_room_9 : decode cX3_room 9 = .ok (.getfield 11, 3) := by decide +kernel
theorem dX3_room_12 : decode cX3_room 12 = .ok (.arraylength, 1) := by decide +kernel
theorem dX3_room_13 : decode cX3_room 13 = .ok (.if_icmp .le 25, 3) := by decide +kernel
theorem dX3_room_16 : decode cX3_room 16 = .ok (.aload_n 0, 1) := by decide +kernel
theorem dX3_room_17 : decode cX3_room 17 = .ok (.aload_n 0, 1) := by decide +kernel
theorem dX3_room_18 : decode cX3_room 18 = .ok (.getfield 11, 3) := by decide +kernel
theorem dX3_room_21 : decode cX3_room 21 = .ok (.iload_n 2, 1) := by decide +kernel
theorem dX3_room_22 : decode cX3_room 22 = .ok (.iconst 2, 1) := by decide +kernel
theorem dX3_room_23 : decode cX3_room 23 = .ok (.aload_n 0, 1) := by decide +kernel
theorem dX3_room_24 : decode cX3_room 24 = .ok (.getfield 11, 3) := by decide +kernel
theorem dX3_room_27 : decode cX3_room 27 = .ok (.arraylength, 1) := by decide +kernel
theorem dX3_room_28 : decode cX3_room 28 = .ok (.imul, 1) := by decide +kernel
theorem dX3_room_29 : decode cX3_room 29 = .ok (.invokestatic 29, 3) := by decide +kernel
theorem dX3_room_32 : decode cX3_room 32 = .ok (.invokestatic 35, 3) := by decide +kernel
theorem dX3_room_35 : decode cX3_room 35 = .ok (.putfield 11, 3) := by decide +kernel
theorem dX3_room_38 : decode cX3_room 38 = .ok (.return_, 1) := by decide +kernel
theorem dX3_next_0 : decode cX3_next 0 = .ok (.iload_n 1, 1) := by decide +kernel
theorem dX3_next_1 : decode cX3_next 1 = .ok (.iconst 1, 1) := by decide +kernel
theorem dX3_next_2 : decode cX3_next 2 = .ok (.iadd, 1) := by decide +kernel
theorem dX3_next_3 : decode cX3_next 3 = .ok (.aload_n 0, 1) := by decide +kernel
theorem dX3_next_4 : decode cX3_next 4 = .ok (.getfield 11, 3) := by decide +kernel
theorem dX3_next_7 : decode cX3_next 7 = .ok (.iload_n 1, 1) := by decide +kernel
theorem dX3_next_8 : decode cX3_next 8 = .ok (.iaload, 1) := by decide +kernel
theorem dX3_next_9 : decode cX3_next 9 = .ok (.iconst 1, 1) := by decide +kernel
theorem dX3_next_10 : decode cX3_next 10 = .ok (.ishr, 1) := by decide +kernel
theorem dX3_next_11 : decode cX3_next 11 = .ok (.iadd, 1) := by decide +kernel
theorem dX3_next_12 : decode cX3_next 12 = .ok (.ireturn, 1) := by decide +kernel
theorem dX3_skip_0 : decode cX3_skip 0 = .ok (.iload_n 1, 1) := by decide +kernel
theorem dX3_skip_1 : decode cX3_skip 1 = .ok (.istore_n 3, 1) := by decide +kernel
theorem dX3_skip_2 : decode cX3_skip 2 = .ok (.iconst 0, 1) := by decide +kernel
theorem dX3_skip_3 : decode cX3_skip 3 = .ok (.istore 4, 2) := by decide +kernel
theorem dX3_skip_5 : decode cX3_skip 5 = .ok (.iload 4, 2) := by decide +kernel
theorem dX3_skip_7 : decode cX3_skip 7 = .ok (.iload_n 2, 1) := by decide +kernel
theorem dX3_skip_8 : decode cX3_skip 8 = .ok (.if_icmp .ge 22, 3) := by decide +kernel
theorem dX3_skip_11 : decode cX3_skip 11 = .ok (.iload_n 3, 1) := by decide +kernel
theorem dX3_skip_12 : decode cX3_skip 12 = .ok (.iconst 1, 1) := by decide +kernel
theorem dX3_skip_13 : decode cX3_skip 13 = .ok (.aload_n 0, 1) := by decide +kernel
theorem dX3_skip_14 : decode cX3_skip 14 = .ok (.getfield 11, 3) := by decide +kernel
theorem dX3_skip_17 : decode cX3_skip 17 = .ok (.iload_n 3, 1) := by decide +kernel
theorem dX3_skip_18 : decode cX3_skip 18 = .ok (.iaload, 1) := by decide +kernel
theorem dX3_skip_19 : decode cX3_skip 19 = .ok (.iconst 1, 1) := by decide +kernel
theorem dX3_skip_20 : decode cX3_skip 20 = .ok (.ishr, 1) := by decide +kernel
theorem dX3_skip_21 : decode cX3_skip 21 = .ok (.iadd, 1) := by decide +kernel
theorem dX3_skip_22 : decode cX3_skip 22 = .ok (.iadd, 1) := by decide +kernel
theorem dX3_skip_23 : decode cX3_skip 23 = .ok (.istore_n 3, 1) := by decide +kernel
theorem dX3_skip_24 : decode cX3_skip 24 = .ok (.iinc 4 1, 3) := by decide +kernel
theorem dX3_skip_27 : decode cX3_skip 27 = .ok (.goto (-22), 3) := by decide +kernel
theorem dX3_skip_30 : decode cX3_skip 30 = .ok (.iload_n 3, 1) := by decide +kernel
theorem dX3_skip_31 : decode cX3_skip 31 = .ok (.ireturn, 1) := by decide +kernel
theorem dX3_signAt_0 : decode cX3_signAt 0 = .ok (.aload_n 0, 1) := by decide +kernel
theorem dX3_signAt_1 : decode cX3_signAt 1 = .ok (.getfield 11, 3) := by decide +kernel
theorem dX3_signAt_4 : decode cX3_signAt 4 = .ok (.iload_n 1, 1) := by decide +kernel
theorem dX3_signAt_5 : decode cX3_signAt 5 = .ok (.iaload, 1) := by decide +kernel
theorem dX3_signAt_6 : decode cX3_signAt 6 = .ok (.ifCond .ne 7, 3) := by decide +kernel
theorem dX3_signAt_9 : decode cX3_signAt 9 = .ok (.iconst 0, 1) := by decide +kernel
theorem dX3_signAt_10 : decode cX3_signAt 10 = .ok (.goto 15, 3) := by decide +kernel
theorem dX3_signAt_13 : decode cX3_signAt 13 = .ok (.iconst 1, 1) := by decide +kernel
theorem dX3_signAt_14 : decode cX3_signAt 14 = .ok (.iconst 2, 1) := by decide +kernel
theorem dX3_signAt_15 : decode cX3_signAt 15 = .ok (.aload_n 0, 1) := by decide +kernel
theorem dX3_signAt_16 : decode cX3_signAt 16 = .ok (.getfield 11, 3) := by decide +kernel
theorem dX3_signAt_19 : decode cX3_signAt 19 = .ok (.iload_n 1, 1) := by decide +kernel
theorem dX3_signAt_20 : decode cX3_signAt 20 = .ok (.iaload, 1) := by decide +kernel
theorem dX3_signAt_21 : decode cX3_signAt 21 = .ok (.iconst 1, 1) := by decide +kernel
theorem dX3_signAt_22 : decode cX3_signAt 22 = .ok (.iand, 1) := by decide +kernel
theorem dX3_signAt_23 : decode cX3_signAt 23 = .ok (.imul, 1) := by decide +kernel
theorem dX3_signAt_24 : decode cX3_signAt 24 = .ok (.isub, 1) := by decide +kernel
theorem dX3_signAt_25 : decode cX3_signAt 25 = .ok (.ireturn, 1) := by decide +kernel
theorem dX3_isBelow_0 : decode cX3_isBelow 0 = .ok (.aload_n 0, 1) := by decide +kernel
theorem dX3_isBelow_1 : decode cX3_isBelow 1 = .ok (.getfield 11, 3) := by decide +kernel
theorem dX3_isBelow_4 : decode cX3_isBelow 4 = .ok (.iload_n 1, 1) := by decide +kernel
theorem dX3_isBelow_5 : decode cX3_isBelow 5 = .ok (.iaload, 1) := by decide +kernel
theorem dX3_isBelow_6 : decode cX3_isBelow 6 = .ok (.iconst 1, 1) := by decide +kernel
theorem dX3_isBelow_7 : decode cX3_isBelow 7 = .ok (.iand, 1) := by decide +kernel
theorem dX3_isBelow_8 : decode cX3_isBelow 8 = .ok (.iconst 1, 1) := by decide +kernel
theorem dX3_isBelow_9 : decode cX3_isBelow 9 = .ok (.if_icmp .ne 7, 3) := by decide +kernel
theorem dX3_isBelow_12 : decode cX3_isBelow 12 = .ok (.iconst 1, 1) := by decide +kernel
theorem dX3_isBelow_13 : decode cX3_isBelow 13 = .ok (.goto 4, 3) := by decide +kernel
theorem dX3_isBelow_16 : decode cX3_isBelow 16 = .ok (.iconst 0, 1) := by decide +kernel
theorem dX3_isBelow_17 : decode cX3_isBelow 17 = .ok (.ireturn, 1) := by decide +kernel
theorem dX3_closed_0 : decode cX3_closed 0 = .ok (.iload_n 2, 1) := by decide +kernel
theorem dX3_closed_1 : decode cX3_closed 1 = .ok (.istore 4, 2) := by decide +kernel
theorem dX3_closed_3 : decode cX3_closed 3 = .ok (.iload 4, 2) := by decide +kernel
theorem dX3_closed_5 : decode cX3_closed 5 = .ok (.ifCond .le 21, 3) := by decide +kernel
theorem dX3_closed_8 : decode cX3_closed 8 = .ok (.aload_n 0, 1) := by decide +kernel
theorem dX3_closed_9 : decode cX3_closed 9 = .ok (.getfield 11, 3) := by decide +kernel
theorem dX3_closed_12 : decode cX3_closed 12 = .ok (.iload_n 1, 1) := by decide +kernel
theorem dX3_closed_13 : decode cX3_closed 13 = .ok (.iload 4, 2) := by decide +kernel
theorem dX3_closed_15 : decode cX3_closed 15 = .ok (.iadd, 1) := by decide +kernel
theorem dX3_closed_16 : decode cX3_closed 16 = .ok (.iaload, 1) := by decide +kernel
theorem dX3_closed_17 : decode cX3_closed 17 = .ok (.ifCond .ne 9, 3) := by decide +kernel
theorem dX3_closed_20 : decode cX3_closed 20 = .ok (.iinc 4 (-1), 3) := by decide +kernel
theorem dX3_closed_23 : decode cX3_closed 23 = .ok (.goto (-20), 3) := by decide +kernel
theorem dX3_closed_26 : decode cX3_closed 26 = .ok (.aload_n 0, 1) := by decide +kernel
theorem dX3_closed_27 : decode cX3_closed 27 = .ok (.getfield 11, 3) := by decide +kernel
theorem dX3_closed_30 : decode cX3_closed 30 = .ok (.iload_n 1, 1) := by decide +kernel
theorem dX3_closed_31 : decode cX3_closed 31 = .ok (.iload 4, 2) := by decide +kernel
theorem dX3_closed_33 : decode cX3_closed 33 = .ok (.ifCond .ne 7, 3) := by decide +kernel
theorem dX3_closed_36 : decode cX3_closed 36 = .ok (.iconst 0, 1) := by decide +kernel
theorem dX3_closed_37 : decode cX3_closed 37 = .ok (.goto 17, 3) := by decide +kernel
theorem dX3_closed_40 : decode cX3_closed 40 = .ok (.iconst 2, 1) := by decide +kernel
theorem dX3_closed_41 : decode cX3_closed 41 = .ok (.iload 4, 2) := by decide +kernel
theorem dX3_closed_43 : decode cX3_closed 43 = .ok (.imul, 1) := by decide +kernel
theorem dX3_closed_44 : decode cX3_closed 44 = .ok (.iload_n 3, 1) := by decide +kernel
theorem dX3_closed_45 : decode cX3_closed 45 = .ok (.ifCond .eq 7, 3) := by decide +kernel
theorem dX3_closed_48 : decode cX3_closed 48 = .ok (.iconst 1, 1) := by decide +kernel
theorem dX3_closed_49 : decode cX3_closed 49 = .ok (.goto 4, 3) := by decide +kernel
theorem dX3_closed_52 : decode cX3_closed 52 = .ok (.iconst 0, 1) := by decide +kernel
theorem dX3_closed_53 : decode cX3_closed 53 = .ok (.iadd, 1) := by decide +kernel
theorem dX3_closed_54 : decode cX3_closed 54 = .ok (.iastore, 1) := by decide +kernel
theorem dX3_closed_55 : decode cX3_closed 55 = .ok (.aload_n 0, 1) := by decide +kernel
theorem dX3_closed_56 : decode cX3_closed 56 = .ok (.iload_n 1, 1) := by decide +kernel
theorem dX3_closed_57 : decode cX3_closed 57 = .ok (.iconst 1, 1) := by decide +kernel
theorem dX3_closed_58 : decode cX3_closed 58 = .ok (.iadd, 1) := by decide +kernel
theorem dX3_closed_59 : decode cX3_closed 59 = .ok (.iload 4, 2) := by decide +kernel
theorem dX3_closed_61 : decode cX3_closed 61 = .ok (.iadd, 1) := by decide +kernel
theorem dX3_closed_62 : decode cX3_closed 62 = .ok (.putfield 15, 3) := by decide +kernel
theorem dX3_closed_65 : decode cX3_closed 65 = .ok (.iload_n 1, 1) := by decide +kernel
theorem dX3_closed_66 : decode cX3_closed 66 = .ok (.ireturn, 1) := by decide +kernel
theorem dX3_whole_0 : decode cX3_whole 0 = .ok (.aload_n 0, 1) := by decide +kernel
theorem dX3_whole_1 : decode cX3_whole 1 = .ok (.iconst 4, 1) := by decide +kernel
theorem dX3_whole_2 : decode cX3_whole 2 = .ok (.invokevirtual 41, 3) := by decide +kernel
theorem dX3_whole_5 : decode cX3_whole 5 = .ok (.aload_n 0, 1) := by decide +kernel
theorem dX3_whole_6 : decode cX3_whole 6 = .ok (.getfield 15, 3) := by decide +kernel
theorem dX3_whole_9 : decode cX3_whole 9 = .ok (.istore_n 3, 1) := by decide +kernel
theorem dX3_whole_10 : decode cX3_whole 10 = .ok (.lload_n 1, 1) := by decide +kernel
theorem dX3_whole_11 : decode cX3_whole 11 = .ok (.lstore 4, 2) := by decide +kernel
theorem dX3_whole_13 : decode cX3_whole 13 = .ok (.iconst 1, 1) := by decide +kernel
theorem dX3_whole_14 : decode cX3_whole 14 = .ok (.istore 6, 2) := by decide +kernel
theorem dX3_whole_16 : decode cX3_whole 16 = .ok (.iload 6, 2) := by decide +kernel
theorem dX3_whole_18 : decode cX3_whole 18 = .ok (.iconst 3, 1) := by decide +kernel
theorem dX3_whole_19 : decode cX3_whole 19 = .ok (.if_icmp .gt 50, 3) := by decide +kernel
theorem dX3_whole_22 : decode cX3_whole 22 = .ok (.lload 4, 2) := by decide +kernel
theorem dX3_whole_24 : decode cX3_whole 24 = .ok (.ldc2_w 45, 3) := by decide +kernel
theorem dX3_whole_27 : decode cX3_whole 27 = .ok (.lrem, 1) := by decide +kernel
theorem dX3_whole_28 : decode cX3_whole 28 = .ok (.lstore 7, 2) := by decide +kernel
theorem dX3_whole_30 : decode cX3_whole 30 = .ok (.aload_n 0, 1) := by decide +kernel
theorem dX3_whole_31 : decode cX3_whole 31 = .ok (.getfield 11, 3) := by decide +kernel
theorem dX3_whole_34 : decode cX3_whole 34 = .ok (.iload_n 3, 1) := by decide +kernel
theorem dX3_whole_35 : decode cX3_whole 35 = .ok (.iload 6, 2) := by decide +kernel
theorem dX3_whole_37 : decode cX3_whole 37 = .ok (.iadd, 1) := by decide +kernel
theorem dX3_whole_38 : decode cX3_whole 38 = .ok (.lload 7, 2) := by decide +kernel
theorem dX3_whole_40 : decode cX3_whole 40 = .ok (.lconst 0, 1) := by decide +kernel
theorem dX3_whole_41 : decode cX3_whole 41 = .ok (.lcmp, 1) := by decide +kernel
theorem dX3_whole_42 : decode cX3_whole 42 = .ok (.ifCond .ge 9, 3) := by decide +kernel
theorem dX3_whole_45 : decode cX3_whole 45 = .ok (.lload 7, 2) := by decide +kernel
theorem dX3_whole_47 : decode cX3_whole 47 = .ok (.lneg, 1) := by decide +kernel
theorem dX3_whole_48 : decode cX3_whole 48 = .ok (.goto 5, 3) := by decide +kernel
theorem dX3_whole_51 : decode cX3_whole 51 = .ok (.lload 7, 2) := by decide +kernel
theorem dX3_whole_53 : decode cX3_whole 53 = .ok (.l2i, 1) := by decide +kernel
theorem dX3_whole_54 : decode cX3_whole 54 = .ok (.iastore, 1) := by decide +kernel
theorem dX3_whole_55 : decode cX3_whole 55 = .ok (.lload 4, 2) := by decide +kernel
theorem dX3_whole_57 : decode cX3_whole 57 = .ok (.ldc2_w 45, 3) := by decide +kernel
theorem dX3_whole_60 : decode cX3_whole 60 = .ok (.ldiv, 1) := by decide +kernel
theorem dX3_whole_61 : decode cX3_whole 61 = .ok (.lstore 4, 2) := by decide +kernel
theorem dX3_whole_63 : decode cX3_whole 63 = .ok (.iinc 6 1, 3) := by decide +kernel
theorem dX3_whole_66 : decode cX3_whole 66 = .ok (.goto (-50), 3) := by decide +kernel
theorem dX3_whole_69 : decode cX3_whole 69 = .ok (.aload_n 0, 1) := by decide +kernel
theorem dX3_whole_70 : decode cX3_whole 70 = .ok (.iload_n 3, 1) := by decide +kernel
theorem dX3_whole_71 : decode cX3_whole 71 = .ok (.iconst 3, 1) := by decide +kernel
theorem dX3_whole_72 : decode cX3_whole 72 = .ok (.lload_n 1, 1) := by decide +kernel
theorem dX3_whole_73 : decode cX3_whole 73 = .ok (.lconst 0, 1) := by decide +kernel
theorem dX3_whole_74 : decode cX3_whole 74 = .ok (.lcmp, 1) := by decide +kernel
theorem dX3_whole_75 : decode cX3_whole 75 = .ok (.ifCond .ge 7, 3) := by decide +kernel
theorem dX3_whole_78 : decode cX3_whole 78 = .ok (.iconst 1, 1) := by decide +kernel
theorem dX3_whole_79 : decode cX3_whole 79 = .ok (.goto 4, 3) := by decide +kernel
theorem dX3_whole_82 : decode cX3_whole 82 = .ok (.iconst 0, 1) := by decide +kernel
theorem dX3_whole_83 : decode cX3_whole 83 = .ok (.invokevirtual 47, 3) := by decide +kernel
theorem dX3_whole_86 : decode cX3_whole 86 = .ok (.ireturn, 1) := by decide +kernel
theorem dX3_noughts_0 : decode cX3_noughts 0 = .ok (.aload_n 0, 1) := by decide +kernel
theorem dX3_noughts_1 : decode cX3_noughts 1 = .ok (.iload_n 1, 1) := by decide +kernel
theorem dX3_noughts_2 : decode cX3_noughts 2 = .ok (.invokevirtual 41, 3) := by decide +kernel
theorem dX3_noughts_5 : decode cX3_noughts 5 = .ok (.aload_n 0, 1) := by decide +kernel
theorem dX3_noughts_6 : decode cX3_noughts 6 = .ok (.getfield 11, 3) := by decide +kernel
theorem dX3_noughts_9 : decode cX3_noughts 9 = .ok (.aload_n 0, 1) := by decide +kernel
theorem dX3_noughts_10 : decode cX3_noughts 10 = .ok (.getfield 15, 3) := by decide +kernel
theorem dX3_noughts_13 : decode cX3_noughts 13 = .ok (.aload_n 0, 1) := by decide +kernel
theorem dX3_noughts_14 : decode cX3_noughts 14 = .ok (.getfield 15, 3) := by decide +kernel
theorem dX3_noughts_17 : decode cX3_noughts 17 = .ok (.iload_n 1, 1) := by decide +kernel
theorem dX3_noughts_18 : decode cX3_noughts 18 = .ok (.iadd, 1) := by decide +kernel
theorem dX3_noughts_19 : decode cX3_noughts 19 = .ok (.iconst 0, 1) := by decide +kernel
theorem dX3_noughts_20 : decode cX3_noughts 20 = .ok (.invokestatic 51, 3) := by decide +kernel
theorem dX3_noughts_23 : decode cX3_noughts 23 = .ok (.aload_n 0, 1) := by decide +kernel
theorem dX3_noughts_24 : decode cX3_noughts 24 = .ok (.dup, 1) := by decide +kernel
theorem dX3_noughts_25 : decode cX3_noughts 25 = .ok (.getfield 15, 3) := by decide +kernel
theorem dX3_noughts_28 : decode cX3_noughts 28 = .ok (.iload_n 1, 1) := by decide +kernel
theorem dX3_noughts_29 : decode cX3_noughts 29 = .ok (.iadd, 1) := by decide +kernel
theorem dX3_noughts_30 : decode cX3_noughts 30 = .ok (.putfield 15, 3) := by decide +kernel
theorem dX3_noughts_33 : decode cX3_noughts 33 = .ok (.return_, 1) := by decide +kernel
theorem dX3_copied_0 : decode cX3_copied 0 = .ok (.aload_n 0, 1) := by decide +kernel
theorem dX3_copied_1 : decode cX3_copied 1 = .ok (.iload_n 1, 1) := by decide +kernel
theorem dX3_copied_2 : decode cX3_copied 2 = .ok (.iload_n 2, 1) := by decide +kernel
theorem dX3_copied_3 : decode cX3_copied 3 = .ok (.invokevirtual 55, 3) := by decide +kernel
theorem dX3_copied_6 : decode cX3_copied 6 = .ok (.iload_n 1, 1) := by decide +kernel
theorem dX3_copied_7 : decode cX3_copied 7 = .ok (.isub, 1) := by decide +kernel
theorem dX3_copied_8 : decode cX3_copied 8 = .ok (.istore_n 3, 1) := by decide +kernel
theorem dX3_copied_9 : decode cX3_copied 9 = .ok (.aload_n 0, 1) := by decide +kernel
theorem dX3_copied_10 : decode cX3_copied 10 = .ok (.iload_n 3, 1) := by decide +kernel
theorem dX3_copied_11 : decode cX3_copied 11 = .ok (.invokevirtual 41, 3) := by decide +kernel
theorem dX3_copied_14 : decode cX3_copied 14 = .ok (.aload_n 0, 1) := by decide +kernel
theorem dX3_copied_15 : decode cX3_copied 15 = .ok (.getfield 15, 3) := by decide +kernel
theorem dX3_copied_18 : decode cX3_copied 18 = .ok (.istore 4, 2) := by decide +kernel
theorem dX3_copied_20 : decode cX3_copied 20 = .ok (.aload_n 0, 1) := by decide +kernel
theorem dX3_copied_21 : decode cX3_copied 21 = .ok (.getfield 11, 3) := by decide +kernel
theorem dX3_copied_24 : decode cX3_copied 24 = .ok (.iload_n 1, 1) := by decide +kernel
theorem dX3_copied_25 : decode cX3_copied 25 = .ok (.aload_n 0, 1) := by decide +kernel
theorem dX3_copied_26 : decode cX3_copied 26 = .ok (.getfield 11, 3) := by decide +kernel
theorem dX3_copied_29 : decode cX3_copied 29 = .ok (.iload 4, 2) := by decide +kernel
theorem dX3_copied_31 : decode cX3_copied 31 = .ok (.iload_n 3, 1) := by decide +kernel
theorem dX3_copied_32 : decode cX3_copied 32 = .ok (.invokestatic 58, 3) := by decide +kernel
theorem dX3_copied_35 : decode cX3_copied 35 = .ok (.aload_n 0, 1) := by decide +kernel
theorem dX3_copied_36 : decode cX3_copied 36 = .ok (.iload 4, 2) := by decide +kernel
theorem dX3_copied_38 : decode cX3_copied 38 = .ok (.iload_n 3, 1) := by decide +kernel
theorem dX3_copied_39 : decode cX3_copied 39 = .ok (.iadd, 1) := by decide +kernel
theorem dX3_copied_40 : decode cX3_copied 40 = .ok (.putfield 15, 3) := by decide +kernel
theorem dX3_copied_43 : decode cX3_copied 43 = .ok (.iload 4, 2) := by decide +kernel
theorem dX3_copied_45 : decode cX3_copied 45 = .ok (.ireturn, 1) := by decide +kernel
theorem dX3_slid_0 : decode cX3_slid 0 = .ok (.aload_n 0, 1) := by decide +kernel
theorem dX3_slid_1 : decode cX3_slid 1 = .ok (.getfield 15, 3) := by decide +kernel
theorem dX3_slid_4 : decode cX3_slid 4 = .ok (.iload_n 2, 1) := by decide +kernel
theorem dX3_slid_5 : decode cX3_slid 5 = .ok (.isub, 1) := by decide +kernel
theorem dX3_slid_6 : decode cX3_slid 6 = .ok (.istore_n 3, 1) := by decide +kernel
theorem dX3_slid_7 : decode cX3_slid 7 = .ok (.aload_n 0, 1) := by decide +kernel
theorem dX3_slid_8 : decode cX3_slid 8 = .ok (.getfield 11, 3) := by decide +kernel
theorem dX3_slid_11 : decode cX3_slid 11 = .ok (.iload_n 2, 1) := by decide +kernel
theorem dX3_slid_12 : decode cX3_slid 12 = .ok (.aload_n 0, 1) := by decide +kernel
theorem dX3_slid_13 : decode cX3_slid 13 = .ok (.getfield 11, 3) := by decide +kernel
theorem dX3_slid_16 : decode cX3_slid 16 = .ok (.iload_n 1, 1) := by decide +kernel
theorem dX3_slid_17 : decode cX3_slid 17 = .ok (.iload_n 3, 1) := by decide +kernel
theorem dX3_slid_18 : decode cX3_slid 18 = .ok (.invokestatic 58, 3) := by decide +kernel
theorem dX3_slid_21 : decode cX3_slid 21 = .ok (.aload_n 0, 1) := by decide +kernel
theorem dX3_slid_22 : decode cX3_slid 22 = .ok (.iload_n 1, 1) := by decide +kernel
theorem dX3_slid_23 : decode cX3_slid 23 = .ok (.iload_n 3, 1) := by decide +kernel
theorem dX3_slid_24 : decode cX3_slid 24 = .ok (.iadd, 1) := by decide +kernel
theorem dX3_slid_25 : decode cX3_slid 25 = .ok (.putfield 15, 3) := by decide +kernel
theorem dX3_slid_28 : decode cX3_slid 28 = .ok (.iload_n 1, 1) := by decide +kernel
theorem dX3_slid_29 : decode cX3_slid 29 = .ok (.ireturn, 1) := by decide +kernel
theorem dX3_turn_0 : decode cX3_turn 0 = .ok (.iload_n 1, 1) := by decide +kernel
theorem dX3_turn_1 : decode cX3_turn 1 = .ok (.istore_n 2, 1) := by decide +kernel
theorem dX3_turn_2 : decode cX3_turn 2 = .ok (.iconst 0, 1) := by decide +kernel
theorem dX3_turn_3 : decode cX3_turn 3 = .ok (.istore_n 3, 1) := by decide +kernel
theorem dX3_turn_4 : decode cX3_turn 4 = .ok (.iload_n 3, 1) := by decide +kernel
theorem dX3_turn_5 : decode cX3_turn 5 = .ok (.bipush 16, 2) := by decide +kernel
theorem dX3_turn_7 : decode cX3_turn 7 = .ok (.if_icmp .gt 49, 3) := by decide +kernel
theorem dX3_turn_10 : decode cX3_turn 10 = .ok (.iload_n 2, 1) := by decide +kernel
theorem dX3_turn_11 : decode cX3_turn 11 = .ok (.aload_n 0, 1) := by decide +kernel
theorem dX3_turn_12 : decode cX3_turn 12 = .ok (.getfield 15, 3) := by decide +kernel
theorem dX3_turn_15 : decode cX3_turn 15 = .ok (.if_icmp .ge 41, 3) := by decide +kernel
theorem dX3_turn_18 : decode cX3_turn 18 = .ok (.aload_n 0, 1) := by decide +kernel
theorem dX3_turn_19 : decode cX3_turn 19 = .ok (.getfield 11, 3) := by decide +kernel
theorem dX3_turn_22 : decode cX3_turn 22 = .ok (.iload_n 2, 1) := by decide +kernel
theorem dX3_turn_23 : decode cX3_turn 23 = .ok (.iaload, 1) := by decide +kernel
theorem dX3_turn_24 : decode cX3_turn 24 = .ok (.ifCond .eq 13, 3) := by decide +kernel
theorem dX3_turn_27 : decode cX3_turn 27 = .ok (.aload_n 0, 1) := by decide +kernel
theorem dX3_turn_28 : decode cX3_turn 28 = .ok (.getfield 11, 3) := by decide +kernel
theorem dX3_turn_31 : decode cX3_turn 31 = .ok (.iload_n 2, 1) := by decide +kernel
theorem dX3_turn_32 : decode cX3_turn 32 = .ok (.dup2, 1) := by decide +kernel
theorem dX3_turn_33 : decode cX3_turn 33 = .ok (.iaload, 1) := by decide +kernel
theorem dX3_turn_34 : decode cX3_turn 34 = .ok (.iconst 1, 1) := by decide +kernel
theorem dX3_turn_35 : decode cX3_turn 35 = .ok (.ixor, 1) := by decide +kernel
theorem dX3_turn_36 : decode cX3_turn 36 = .ok (.iastore, 1) := by decide +kernel
theorem dX3_turn_37 : decode cX3_turn 37 = .ok (.iload_n 2, 1) := by decide +kernel
theorem dX3_turn_38 : decode cX3_turn 38 = .ok (.iconst 1, 1) := by decide +kernel
theorem dX3_turn_39 : decode cX3_turn 39 = .ok (.aload_n 0, 1) := by decide +kernel
theorem dX3_turn_40 : decode cX3_turn 40 = .ok (.getfield 11, 3) := by decide +kernel
theorem dX3_turn_43 : decode cX3_turn 43 = .ok (.iload_n 2, 1) := by decide +kernel
theorem dX3_turn_44 : decode cX3_turn 44 = .ok (.iaload, 1) := by decide +kernel
theorem dX3_turn_45 : decode cX3_turn 45 = .ok (.iconst 1, 1) := by decide +kernel
theorem dX3_turn_46 : decode cX3_turn 46 = .ok (.ishr, 1) := by decide +kernel
theorem dX3_turn_47 : decode cX3_turn 47 = .ok (.iadd, 1) := by decide +kernel
theorem dX3_turn_48 : decode cX3_turn 48 = .ok (.iadd, 1) := by decide +kernel
theorem dX3_turn_49 : decode cX3_turn 49 = .ok (.istore_n 2, 1) := by decide +kernel
theorem dX3_turn_50 : decode cX3_turn 50 = .ok (.iinc 3 1, 3) := by decide +kernel
theorem dX3_turn_53 : decode cX3_turn 53 = .ok (.goto (-49), 3) := by decide +kernel
theorem dX3_turn_56 : decode cX3_turn 56 = .ok (.return_, 1) := by decide +kernel
theorem dX3_sizeOrder_0 : decode cX3_sizeOrder 0 = .ok (.aload_n 0, 1) := by decide +kernel
theorem dX3_sizeOrder_1 : decode cX3_sizeOrder 1 = .ok (.getfield 11, 3) := by decide +kernel
theorem dX3_sizeOrder_4 : decode cX3_sizeOrder 4 = .ok (.iload_n 1, 1) := by decide +kernel
theorem dX3_sizeOrder_5 : decode cX3_sizeOrder 5 = .ok (.iaload, 1) := by decide +kernel
theorem dX3_sizeOrder_6 : decode cX3_sizeOrder 6 = .ok (.iconst 1, 1) := by decide +kernel
theorem dX3_sizeOrder_7 : decode cX3_sizeOrder 7 = .ok (.ishr, 1) := by decide +kernel
theorem dX3_sizeOrder_8 : decode cX3_sizeOrder 8 = .ok (.istore_n 3, 1) := by decide +kernel
theorem dX3_sizeOrder_9 : decode cX3_sizeOrder 9 = .ok (.aload_n 0, 1) := by decide +kernel
theorem dX3_sizeOrder_10 : decode cX3_sizeOrder 10 = .ok (.getfield 11, 3) := by decide +kernel
theorem dX3_sizeOrder_13 : decode cX3_sizeOrder 13 = .ok (.iload_n 2, 1) := by decide +kernel
theorem dX3_sizeOrder_14 : decode cX3_sizeOrder 14 = .ok (.iaload, 1) := by decide +kernel
theorem dX3_sizeOrder_15 : decode cX3_sizeOrder 15 = .ok (.iconst 1, 1) := by decide +kernel
theorem dX3_sizeOrder_16 : decode cX3_sizeOrder 16 = .ok (.ishr, 1) := by decide +kernel
theorem dX3_sizeOrder_17 : decode cX3_sizeOrder 17 = .ok (.istore 4, 2) := by decide +kernel
theorem dX3_sizeOrder_19 : decode cX3_sizeOrder 19 = .ok (.iload_n 3, 1) := by decide +kernel
theorem dX3_sizeOrder_20 : decode cX3_sizeOrder 20 = .ok (.iload 4, 2) := by decide +kernel
theorem dX3_sizeOrder_22 : decode cX3_sizeOrder 22 = .ok (.if_icmp .eq 15, 3) := by decide +kernel
theorem dX3_sizeOrder_25 : decode cX3_sizeOrder 25 = .ok (.iload_n 3, 1) := by decide +kernel
theorem dX3_sizeOrder_26 : decode cX3_sizeOrder 26 = .ok (.iload 4, 2) := by decide +kernel
theorem dX3_sizeOrder_28 : decode cX3_sizeOrder 28 = .ok (.if_icmp .ge 7, 3) := by decide +kernel
theorem dX3_sizeOrder_31 : decode cX3_sizeOrder 31 = .ok (.iconst (-1), 1) := by decide +kernel
theorem dX3_sizeOrder_32 : decode cX3_sizeOrder 32 = .ok (.goto 4, 3) := by decide +kernel
theorem dX3_sizeOrder_35 : decode cX3_sizeOrder 35 = .ok (.iconst 1, 1) := by decide +kernel
theorem dX3_sizeOrder_36 : decode cX3_sizeOrder 36 = .ok (.ireturn, 1) := by decide +kernel
theorem dX3_sizeOrder_37 : decode cX3_sizeOrder 37 = .ok (.iload 4, 2) := by decide +kernel
theorem dX3_sizeOrder_39 : decode cX3_sizeOrder 39 = .ok (.istore 5, 2) := by decide +kernel
theorem dX3_sizeOrder_41 : decode cX3_sizeOrder 41 = .ok (.iload 5, 2) := by decide +kernel
theorem dX3_sizeOrder_43 : decode cX3_sizeOrder 43 = .ok (.ifCond .le 46, 3) := by decide +kernel
theorem dX3_sizeOrder_46 : decode cX3_sizeOrder 46 = .ok (.aload_n 0, 1) := by decide +kernel
theorem dX3_sizeOrder_47 : decode cX3_sizeOrder 47 = .ok (.getfield 11, 3) := by decide +kernel
theorem dX3_sizeOrder_50 : decode cX3_sizeOrder 50 = .ok (.iload_n 1, 1) := by decide +kernel
theorem dX3_sizeOrder_51 : decode cX3_sizeOrder 51 = .ok (.iload 5, 2) := by decide +kernel
theorem dX3_sizeOrder_53 : decode cX3_sizeOrder 53 = .ok (.iadd, 1) := by decide +kernel
theorem dX3_sizeOrder_54 : decode cX3_sizeOrder 54 = .ok (.iaload, 1) := by decide +kernel
theorem dX3_sizeOrder_55 : decode cX3_sizeOrder 55 = .ok (.aload_n 0, 1) := by decide +kernel
theorem dX3_sizeOrder_56 : decode cX3_sizeOrder 56 = .ok (.getfield 11, 3) := by decide +kernel
theorem dX3_sizeOrder_59 : decode cX3_sizeOrder 59 = .ok (.iload_n 2, 1) := by decide +kernel
theorem dX3_sizeOrder_60 : decode cX3_sizeOrder 60 = .ok (.iload 5, 2) := by decide +kernel
theorem dX3_sizeOrder_62 : decode cX3_sizeOrder 62 = .ok (.iadd, 1) := by decide +kernel
theorem dX3_sizeOrder_63 : decode cX3_sizeOrder 63 = .ok (.iaload, 1) := by decide +kernel
theorem dX3_sizeOrder_64 : decode cX3_sizeOrder 64 = .ok (.isub, 1) := by decide +kernel
theorem dX3_sizeOrder_65 : decode cX3_sizeOrder 65 = .ok (.istore 6, 2) := by decide +kernel
theorem dX3_sizeOrder_67 : decode cX3_sizeOrder 67 = .ok (.iload 6, 2) := by decide +kernel
theorem dX3_sizeOrder_69 : decode cX3_sizeOrder 69 = .ok (.ifCond .eq 14, 3) := by decide +kernel
theorem dX3_sizeOrder_72 : decode cX3_sizeOrder 72 = .ok (.iload 6, 2) := by decide +kernel
theorem dX3_sizeOrder_74 : decode cX3_sizeOrder 74 = .ok (.ifCond .ge 7, 3) := by decide +kernel
theorem dX3_sizeOrder_77 : decode cX3_sizeOrder 77 = .ok (.iconst (-1), 1) := by decide +kernel
theorem dX3_sizeOrder_78 : decode cX3_sizeOrder 78 = .ok (.goto 4, 3) := by decide +kernel
theorem dX3_sizeOrder_81 : decode cX3_sizeOrder 81 = .ok (.iconst 1, 1) := by decide +kernel
theorem dX3_sizeOrder_82 : decode cX3_sizeOrder 82 = .ok (.ireturn, 1) := by decide +kernel
theorem dX3_sizeOrder_83 : decode cX3_sizeOrder 83 = .ok (.iinc 5 (-1), 3) := by decide +kernel
theorem dX3_sizeOrder_86 : decode cX3_sizeOrder 86 = .ok (.goto (-45), 3) := by decide +kernel
theorem dX3_sizeOrder_89 : decode cX3_sizeOrder 89 = .ok (.iconst 0, 1) := by decide +kernel
theorem dX3_sizeOrder_90 : decode cX3_sizeOrder 90 = .ok (.ireturn, 1) := by decide +kernel
theorem dX3_areSame_0 : decode cX3_areSame 0 = .ok (.aload_n 0, 1) := by decide +kernel
theorem dX3_areSame_1 : decode cX3_areSame 1 = .ok (.getfield 11, 3) := by decide +kernel
theorem dX3_areSame_4 : decode cX3_areSame 4 = .ok (.iload_n 1, 1) := by decide +kernel
theorem dX3_areSame_5 : decode cX3_areSame 5 = .ok (.iaload, 1) := by decide +kernel
theorem dX3_areSame_6 : decode cX3_areSame 6 = .ok (.aload_n 0, 1) := by decide +kernel
theorem dX3_areSame_7 : decode cX3_areSame 7 = .ok (.getfield 11, 3) := by decide +kernel
theorem dX3_areSame_10 : decode cX3_areSame 10 = .ok (.iload_n 2, 1) := by decide +kernel
theorem dX3_areSame_11 : decode cX3_areSame 11 = .ok (.iaload, 1) := by decide +kernel
theorem dX3_areSame_12 : decode cX3_areSame 12 = .ok (.if_icmp .ne 16, 3) := by decide +kernel
theorem dX3_areSame_15 : decode cX3_areSame 15 = .ok (.aload_n 0, 1) := by decide +kernel
theorem dX3_areSame_16 : decode cX3_areSame 16 = .ok (.iload_n 1, 1) := by decide +kernel
theorem dX3_areSame_17 : decode cX3_areSame 17 = .ok (.iload_n 2, 1) := by decide +kernel
theorem dX3_areSame_18 : decode cX3_areSame 18 = .ok (.invokevirtual 64, 3) := by decide +kernel
theorem dX3_areSame_21 : decode cX3_areSame 21 = .ok (.ifCond .ne 7, 3) := by decide +kernel
theorem dX3_areSame_24 : decode cX3_areSame 24 = .ok (.iconst 1, 1) := by decide +kernel
theorem dX3_areSame_25 : decode cX3_areSame 25 = .ok (.goto 4, 3) := by decide +kernel
theorem dX3_areSame_28 : decode cX3_areSame 28 = .ok (.iconst 0, 1) := by decide +kernel
theorem dX3_areSame_29 : decode cX3_areSame 29 = .ok (.ireturn, 1) := by decide +kernel
theorem dX3_times_0 : decode cX3_times 0 = .ok (.aload_n 0, 1) := by decide +kernel
theorem dX3_times_1 : decode cX3_times 1 = .ok (.getfield 11, 3) := by decide +kernel
theorem dX3_times_4 : decode cX3_times 4 = .ok (.iload_n 1, 1) := by decide +kernel
theorem dX3_times_5 : decode cX3_times 5 = .ok (.iaload, 1) := by decide +kernel
theorem dX3_times_6 : decode cX3_times 6 = .ok (.iconst 1, 1) := by decide +kernel
theorem dX3_times_7 : decode cX3_times 7 = .ok (.ishr, 1) := by decide +kernel
theorem dX3_times_8 : decode cX3_times 8 = .ok (.istore_n 3, 1) := by decide +kernel
theorem dX3_times_9 : decode cX3_times 9 = .ok (.aload_n 0, 1) := by decide +kernel
theorem dX3_times_10 : decode cX3_times 10 = .ok (.getfield 11, 3) := by decide +kernel
theorem dX3_times_13 : decode cX3_times 13 = .ok (.iload_n 2, 1) := by decide +kernel
theorem dX3_times_14 : decode cX3_times 14 = .ok (.iaload, 1) := by decide +kernel
theorem dX3_times_15 : decode cX3_times 15 = .ok (.iconst 1, 1) := by decide +kernel
theorem dX3_times_16 : decode cX3_times 16 = .ok (.ishr, 1) := by decide +kernel
theorem dX3_times_17 : decode cX3_times 17 = .ok (.istore 4, 2) := by decide +kernel
theorem dX3_times_19 : decode cX3_times 19 = .ok (.aload_n 0, 1) := by decide +kernel
theorem dX3_times_20 : decode cX3_times 20 = .ok (.iload_n 3, 1) := by decide +kernel
theorem dX3_times_21 : decode cX3_times 21 = .ok (.iload 4, 2) := by decide +kernel
theorem dX3_times_23 : decode cX3_times 23 = .ok (.iadd, 1) := by decide +kernel
theorem dX3_times_24 : decode cX3_times 24 = .ok (.iconst 1, 1) := by decide +kernel
theorem dX3_times_25 : decode cX3_times 25 = .ok (.iadd, 1) := by decide +kernel
theorem dX3_times_26 : decode cX3_times 26 = .ok (.invokevirtual 41, 3) := by decide +kernel
theorem dX3_times_29 : decode cX3_times 29 = .ok (.aload_n 0, 1) := by decide +kernel
theorem dX3_times_30 : decode cX3_times 30 = .ok (.getfield 15, 3) := by decide +kernel
theorem dX3_times_33 : decode cX3_times 33 = .ok (.istore 5, 2) := by decide +kernel
theorem dX3_times_35 : decode cX3_times 35 = .ok (.iload_n 3, 1) := by decide +kernel
theorem dX3_times_36 : decode cX3_times 36 = .ok (.ifCond .eq 8, 3) := by decide +kernel
theorem dX3_times_39 : decode cX3_times 39 = .ok (.iload 4, 2) := by decide +kernel
theorem dX3_times_41 : decode cX3_times 41 = .ok (.ifCond .ne 12, 3) := by decide +kernel
theorem dX3_times_44 : decode cX3_times 44 = .ok (.aload_n 0, 1) := by decide +kernel
theorem dX3_times_45 : decode cX3_times 45 = .ok (.iload 5, 2) := by decide +kernel
theorem dX3_times_47 : decode cX3_times 47 = .ok (.iconst 0, 1) := by decide +kernel
theorem dX3_times_48 : decode cX3_times 48 = .ok (.iconst 0, 1) := by decide +kernel
theorem dX3_times_49 : decode cX3_times 49 = .ok (.invokevirtual 47, 3) := by decide +kernel
theorem dX3_times_52 : decode cX3_times 52 = .ok (.ireturn, 1) := by decide +kernel
theorem dX3_times_53 : decode cX3_times 53 = .ok (.aload_n 0, 1) := by decide +kernel
theorem dX3_times_54 : decode cX3_times 54 = .ok (.getfield 11, 3) := by decide +kernel
theorem dX3_times_57 : decode cX3_times 57 = .ok (.astore 6, 2) := by decide +kernel
theorem dX3_times_59 : decode cX3_times 59 = .ok (.lconst 0, 1) := by decide +kernel
theorem dX3_times_60 : decode cX3_times 60 = .ok (.lstore 7, 2) := by decide +kernel
theorem dX3_times_62 : decode cX3_times 62 = .ok (.iconst 0, 1) := by decide +kernel
theorem dX3_times_63 : decode cX3_times 63 = .ok (.istore 9, 2) := by decide +kernel
theorem dX3_times_65 : decode cX3_times 65 = .ok (.iload 9, 2) := by decide +kernel
theorem dX3_times_67 : decode cX3_times 67 = .ok (.iload_n 3, 1) := by decide +kernel
theorem dX3_times_68 : decode cX3_times 68 = .ok (.iload 4, 2) := by decide +kernel
theorem dX3_times_70 : decode cX3_times 70 = .ok (.iadd, 1) := by decide +kernel
theorem dX3_times_71 : decode cX3_times 71 = .ok (.iconst 1, 1) := by decide +kernel
theorem dX3_times_72 : decode cX3_times 72 = .ok (.isub, 1) := by decide +kernel
theorem dX3_times_73 : decode cX3_times 73 = .ok (.if_icmp .ge 137, 3) := by decide +kernel
theorem dX3_times_76 : decode cX3_times 76 = .ok (.lconst 0, 1) := by decide +kernel
theorem dX3_times_77 : decode cX3_times 77 = .ok (.lstore 10, 2) := by decide +kernel
theorem dX3_times_79 : decode cX3_times 79 = .ok (.iload 9, 2) := by decide +kernel
theorem dX3_times_81 : decode cX3_times 81 = .ok (.iload_n 3, 1) := by decide +kernel
theorem dX3_times_82 : decode cX3_times 82 = .ok (.iconst 1, 1) := by decide +kernel
theorem dX3_times_83 : decode cX3_times 83 = .ok (.isub, 1) := by decide +kernel
theorem dX3_times_84 : decode cX3_times 84 = .ok (.invokestatic 72, 3) := by decide +kernel
theorem dX3_times_87 : decode cX3_times 87 = .ok (.istore 12, 2) := by decide +kernel
theorem dX3_times_89 : decode cX3_times 89 = .ok (.iconst 0, 1) := by decide +kernel
theorem dX3_times_90 : decode cX3_times 90 = .ok (.iload 9, 2) := by decide +kernel
theorem dX3_times_92 : decode cX3_times 92 = .ok (.iload 4, 2) := by decide +kernel
theorem dX3_times_94 : decode cX3_times 94 = .ok (.isub, 1) := by decide +kernel
theorem dX3_times_95 : decode cX3_times 95 = .ok (.iconst 1, 1) := by decide +kernel
theorem dX3_times_96 : decode cX3_times 96 = .ok (.iadd, 1) := by decide +kernel
theorem dX3_times_97 : decode cX3_times 97 = .ok (.invokestatic 29, 3) := by decide +kernel
theorem dX3_times_100 : decode cX3_times 100 = .ok (.istore 13, 2) := by decide +kernel
theorem dX3_times_102 : decode cX3_times 102 = .ok (.iload 13, 2) := by decide +kernel
theorem dX3_times_104 : decode cX3_times 104 = .ok (.iload 12, 2) := by decide +kernel
theorem dX3_times_106 : decode cX3_times 106 = .ok (.if_icmp .gt 63, 3) := by decide +kernel
theorem dX3_times_109 : decode cX3_times 109 = .ok (.lload 7, 2) := by decide +kernel
theorem dX3_times_111 : decode cX3_times 111 = .ok (.aload 6, 2) := by decide +kernel
theorem dX3_times_113 : decode cX3_times 113 = .ok (.iload_n 1, 1) := by decide +kernel
theorem dX3_times_114 : decode cX3_times 114 = .ok (.iconst 1, 1) := by decide +kernel
theorem dX3_times_115 : decode cX3_times 115 = .ok (.iadd, 1) := by decide +kernel
theorem dX3_times_116 : decode cX3_times 116 = .ok (.iload 13, 2) := by decide +kernel
theorem dX3_times_118 : decode cX3_times 118 = .ok (.iadd, 1) := by decide +kernel
theorem dX3_times_119 : decode cX3_times 119 = .ok (.iaload, 1) := by decide +kernel
theorem dX3_times_120 : decode cX3_times 120 = .ok (.i2l, 1) := by decide +kernel
theorem dX3_times_121 : decode cX3_times 121 = .ok (.aload 6, 2) := by decide +kernel
theorem dX3_times_123 : decode cX3_times 123 = .ok (.iload_n 2, 1) := by decide +kernel
theorem dX3_times_124 : decode cX3_times 124 = .ok (.iconst 1, 1) := by decide +kernel
theorem dX3_times_125 : decode cX3_times 125 = .ok (.iadd, 1) := by decide +kernel
theorem dX3_times_126 : decode cX3_times 126 = .ok (.iload 9, 2) := by decide +kernel
theorem dX3_times_128 : decode cX3_times 128 = .ok (.iadd, 1) := by decide +kernel
theorem dX3_times_129 : decode cX3_times 129 = .ok (.iload 13, 2) := by decide +kernel
theorem dX3_times_131 : decode cX3_times 131 = .ok (.isub, 1) := by decide +kernel
theorem dX3_times_132 : decode cX3_times 132 = .ok (.iaload, 1) := by decide +kernel
theorem dX3_times_133 : decode cX3_times 133 = .ok (.i2l, 1) := by decide +kernel
theorem dX3_times_134 : decode cX3_times 134 = .ok (.lmul, 1) := by decide +kernel
theorem dX3_times_135 : decode cX3_times 135 = .ok (.ladd, 1) := by decide +kernel
theorem dX3_times_136 : decode cX3_times 136 = .ok (.lstore 7, 2) := by decide +kernel
theorem dX3_times_138 : decode cX3_times 138 = .ok (.lload 7, 2) := by decide +kernel
theorem dX3_times_140 : decode cX3_times 140 = .ok (.ldc2_w 75, 3) := by decide +kernel
theorem dX3_times_143 : decode cX3_times 143 = .ok (.lcmp, 1) := by decide +kernel
theorem dX3_times_144 : decode cX3_times 144 = .ok (.ifCond .lt 19, 3) := by decide +kernel
theorem dX3_times_147 : decode cX3_times 147 = .ok (.lload 7, 2) := by decide +kernel
theorem dX3_times_149 : decode cX3_times 149 = .ok (.ldc2_w 75, 3) := by decide +kernel
theorem dX3_times_152 : decode cX3_times 152 = .ok (.lsub, 1) := by decide +kernel
theorem dX3_times_153 : decode cX3_times 153 = .ok (.lstore 7, 2) := by decide +kernel
theorem dX3_times_155 : decode cX3_times 155 = .ok (.lload 10, 2) := by decide +kernel
theorem dX3_times_157 : decode cX3_times 157 = .ok (.ldc2_w 77, 3) := by decide +kernel
theorem dX3_times_160 : decode cX3_times 160 = .ok (.ladd, 1) := by decide +kernel
theorem dX3_times_161 : decode cX3_times 161 = .ok (.lstore 10, 2) := by decide +kernel
theorem dX3_times_163 : decode cX3_times 163 = .ok (.iinc 13 1, 3) := by decide +kernel
theorem dX3_times_166 : decode cX3_times 166 = .ok (.goto (-64), 3) := by decide +kernel
theorem dX3_times_169 : decode cX3_times 169 = .ok (.lload 7, 2) := by decide +kernel
theorem dX3_times_171 : decode cX3_times 171 = .ok (.ldc2_w 45, 3) := by decide +kernel
theorem dX3_times_174 : decode cX3_times 174 = .ok (.ldiv, 1) := by decide +kernel
theorem dX3_times_175 : decode cX3_times 175 = .ok (.lstore 13, 2) := by decide +kernel
theorem dX3_times_177 : decode cX3_times 177 = .ok (.aload 6, 2) := by decide +kernel
theorem dX3_times_179 : decode cX3_times 179 = .ok (.iload 5, 2) := by decide +kernel
theorem dX3_times_181 : decode cX3_times 181 = .ok (.iconst 1, 1) := by decide +kernel
theorem dX3_times_182 : decode cX3_times 182 = .ok (.iadd, 1) := by decide +kernel
theorem dX3_times_183 : decode cX3_times 183 = .ok (.iload 9, 2) := by decide +kernel
theorem dX3_times_185 : decode cX3_times 185 = .ok (.iadd, 1) := by decide +kernel
theorem dX3_times_186 : decode cX3_times 186 = .ok (.lload 7, 2) := by decide +kernel
theorem dX3_times_188 : decode cX3_times 188 = .ok (.lload 13, 2) := by decide +kernel
theorem dX3_times_190 : decode cX3_times 190 = .ok (.ldc2_w 45, 3) := by decide +kernel
theorem dX3_times_193 : decode cX3_times 193 = .ok (.lmul, 1) := by decide +kernel
theorem dX3_times_194 : decode cX3_times 194 = .ok (.lsub, 1) := by decide +kernel
theorem dX3_times_195 : decode cX3_times 195 = .ok (.l2i, 1) := by decide +kernel
theorem dX3_times_196 : decode cX3_times 196 = .ok (.iastore, 1) := by decide +kernel
theorem dX3_times_197 : decode cX3_times 197 = .ok (.lload 13, 2) := by decide +kernel
theorem dX3_times_199 : decode cX3_times 199 = .ok (.lload 10, 2) := by decide +kernel
theorem dX3_times_201 : decode cX3_times 201 = .ok (.ladd, 1) := by decide +kernel
theorem dX3_times_202 : decode cX3_times 202 = .ok (.lstore 7, 2) := by decide +kernel
theorem dX3_times_204 : decode cX3_times 204 = .ok (.iinc 9 1, 3) := by decide +kernel
theorem dX3_times_207 : decode cX3_times 207 = .ok (.goto (-142), 3) := by decide +kernel
theorem dX3_times_210 : decode cX3_times 210 = .ok (.aload 6, 2) := by decide +kernel
theorem dX3_times_212 : decode cX3_times 212 = .ok (.iload 5, 2) := by decide +kernel
theorem dX3_times_214 : decode cX3_times 214 = .ok (.iload_n 3, 1) := by decide +kernel
theorem dX3_times_215 : decode cX3_times 215 = .ok (.iadd, 1) := by decide +kernel
theorem dX3_times_216 : decode cX3_times 216 = .ok (.iload 4, 2) := by decide +kernel
theorem dX3_times_218 : decode cX3_times 218 = .ok (.iadd, 1) := by decide +kernel
theorem dX3_times_219 : decode cX3_times 219 = .ok (.lload 7, 2) := by decide +kernel
theorem dX3_times_221 : decode cX3_times 221 = .ok (.l2i, 1) := by decide +kernel
theorem dX3_times_222 : decode cX3_times 222 = .ok (.iastore, 1) := by decide +kernel
theorem dX3_times_223 : decode cX3_times 223 = .ok (.aload_n 0, 1) := by decide +kernel
theorem dX3_times_224 : decode cX3_times 224 = .ok (.iload 5, 2) := by decide +kernel
theorem dX3_times_226 : decode cX3_times 226 = .ok (.iload_n 3, 1) := by decide +kernel
theorem dX3_times_227 : decode cX3_times 227 = .ok (.iload 4, 2) := by decide +kernel
theorem dX3_times_229 : decode cX3_times 229 = .ok (.iadd, 1) := by decide +kernel
theorem dX3_times_230 : decode cX3_times 230 = .ok (.aload 6, 2) := by decide +kernel
theorem dX3_times_232 : decode cX3_times 232 = .ok (.iload_n 1, 1) := by decide +kernel
theorem dX3_times_233 : decode cX3_times 233 = .ok (.iaload, 1) := by decide +kernel
theorem dX3_times_234 : decode cX3_times 234 = .ok (.aload 6, 2) := by decide +kernel
theorem dX3_times_236 : decode cX3_times 236 = .ok (.iload_n 2, 1) := by decide +kernel
theorem dX3_times_237 : decode cX3_times 237 = .ok (.iaload, 1) := by decide +kernel
theorem dX3_times_238 : decode cX3_times 238 = .ok (.ixor, 1) := by decide +kernel
theorem dX3_times_239 : decode cX3_times 239 = .ok (.iconst 1, 1) := by decide +kernel
theorem dX3_times_240 : decode cX3_times 240 = .ok (.iand, 1) := by decide +kernel
theorem dX3_times_241 : decode cX3_times 241 = .ok (.iconst 1, 1) := by decide +kernel
theorem dX3_times_242 : decode cX3_times 242 = .ok (.if_icmp .ne 7, 3) := by decide +kernel
theorem dX3_times_245 : decode cX3_times 245 = .ok (.iconst 1, 1) := by decide +kernel
theorem dX3_times_246 : decode cX3_times 246 = .ok (.goto 4, 3) := by decide +kernel
theorem dX3_times_249 : decode cX3_times 249 = .ok (.iconst 0, 1) := by decide +kernel
theorem dX3_times_250 : decode cX3_times 250 = .ok (.invokevirtual 47, 3) := by decide +kernel
theorem dX3_times_253 : decode cX3_times 253 = .ok (.ireturn, 1) := by decide +kernel
theorem dX3_raised_0 : decode cX3_raised 0 = .ok (.aload_n 0, 1) := by decide +kernel
theorem dX3_raised_1 : decode cX3_raised 1 = .ok (.getfield 11, 3) := by decide +kernel
theorem dX3_raised_4 : decode cX3_raised 4 = .ok (.iload_n 1, 1) := by decide +kernel
theorem dX3_raised_5 : decode cX3_raised 5 = .ok (.iaload, 1) := by decide +kernel
theorem dX3_raised_6 : decode cX3_raised 6 = .ok (.iconst 1, 1) := by decide +kernel
theorem dX3_raised_7 : decode cX3_raised 7 = .ok (.ishr, 1) := by decide +kernel
theorem dX3_raised_8 : decode cX3_raised 8 = .ok (.istore_n 3, 1) := by decide +kernel
theorem dX3_raised_9 : decode cX3_raised 9 = .ok (.aload_n 0, 1) := by decide +kernel
theorem dX3_raised_10 : decode cX3_raised 10 = .ok (.iload_n 3, 1) := by decide +kernel
theorem dX3_raised_11 : decode cX3_raised 11 = .ok (.iload_n 2, 1) := by decide +kernel
theorem dX3_raised_12 : decode cX3_raised 12 = .ok (.iadd, 1) := by decide +kernel
theorem dX3_raised_13 : decode cX3_raised 13 = .ok (.iconst 1, 1) := by decide +kernel
theorem dX3_raised_14 : decode cX3_raised 14 = .ok (.iadd, 1) := by decide +kernel
theorem dX3_raised_15 : decode cX3_raised 15 = .ok (.invokevirtual 41, 3) := by decide +kernel
theorem dX3_raised_18 : decode cX3_raised 18 = .ok (.aload_n 0, 1) := by decide +kernel
theorem dX3_raised_19 : decode cX3_raised 19 = .ok (.getfield 15, 3) := by decide +kernel
theorem dX3_raised_22 : decode cX3_raised 22 = .ok (.istore 4, 2) := by decide +kernel
theorem dX3_raised_24 : decode cX3_raised 24 = .ok (.aload_n 0, 1) := by decide +kernel
theorem dX3_raised_25 : decode cX3_raised 25 = .ok (.getfield 11, 3) := by decide +kernel
theorem dX3_raised_28 : decode cX3_raised 28 = .ok (.iload 4, 2) := by decide +kernel
theorem dX3_raised_30 : decode cX3_raised 30 = .ok (.iconst 1, 1) := by decide +kernel
theorem dX3_raised_31 : decode cX3_raised 31 = .ok (.iadd, 1) := by decide +kernel
theorem dX3_raised_32 : decode cX3_raised 32 = .ok (.iload 4, 2) := by decide +kernel
theorem dX3_raised_34 : decode cX3_raised 34 = .ok (.iconst 1, 1) := by decide +kernel
theorem dX3_raised_35 : decode cX3_raised 35 = .ok (.iadd, 1) := by decide +kernel
theorem dX3_raised_36 : decode cX3_raised 36 = .ok (.iload_n 2, 1) := by decide +kernel
theorem dX3_raised_37 : decode cX3_raised 37 = .ok (.iadd, 1) := by decide +kernel
theorem dX3_raised_38 : decode cX3_raised 38 = .ok (.iconst 0, 1) := by decide +kernel
theorem dX3_raised_39 : decode cX3_raised 39 = .ok (.invokestatic 51, 3) := by decide +kernel
theorem dX3_raised_42 : decode cX3_raised 42 = .ok (.aload_n 0, 1) := by decide +kernel
theorem dX3_raised_43 : decode cX3_raised 43 = .ok (.getfield 11, 3) := by decide +kernel
theorem dX3_raised_46 : decode cX3_raised 46 = .ok (.iload_n 1, 1) := by decide +kernel
theorem dX3_raised_47 : decode cX3_raised 47 = .ok (.iconst 1, 1) := by decide +kernel
theorem dX3_raised_48 : decode cX3_raised 48 = .ok (.iadd, 1) := by decide +kernel
theorem dX3_raised_49 : decode cX3_raised 49 = .ok (.aload_n 0, 1) := by decide +kernel
theorem dX3_raised_50 : decode cX3_raised 50 = .ok (.getfield 11, 3) := by decide +kernel
theorem dX3_raised_53 : decode cX3_raised 53 = .ok (.iload 4, 2) := by decide +kernel
theorem dX3_raised_55 : decode cX3_raised 55 = .ok (.iconst 1, 1) := by decide +kernel
theorem dX3_raised_56 : decode cX3_raised 56 = .ok (.iadd, 1) := by decide +kernel
theorem dX3_raised_57 : decode cX3_raised 57 = .ok (.iload_n 2, 1) := by decide +kernel
theorem dX3_raised_58 : decode cX3_raised 58 = .ok (.iadd, 1) := by decide +kernel
theorem dX3_raised_59 : decode cX3_raised 59 = .ok (.iload_n 3, 1) := by decide +kernel
theorem dX3_raised_60 : decode cX3_raised 60 = .ok (.invokestatic 58, 3) := by decide +kernel
theorem dX3_raised_63 : decode cX3_raised 63 = .ok (.aload_n 0, 1) := by decide +kernel
theorem dX3_raised_64 : decode cX3_raised 64 = .ok (.iload 4, 2) := by decide +kernel
theorem dX3_raised_66 : decode cX3_raised 66 = .ok (.iload_n 3, 1) := by decide +kernel
theorem dX3_raised_67 : decode cX3_raised 67 = .ok (.iload_n 2, 1) := by decide +kernel
theorem dX3_raised_68 : decode cX3_raised 68 = .ok (.iadd, 1) := by decide +kernel
theorem dX3_raised_69 : decode cX3_raised 69 = .ok (.aload_n 0, 1) := by decide +kernel
theorem dX3_raised_70 : decode cX3_raised 70 = .ok (.iload_n 1, 1) := by decide +kernel
theorem dX3_raised_71 : decode cX3_raised 71 = .ok (.invokevirtual 67, 3) := by decide +kernel
theorem dX3_raised_74 : decode cX3_raised 74 = .ok (.invokevirtual 47, 3) := by decide +kernel
theorem dX3_raised_77 : decode cX3_raised 77 = .ok (.ireturn, 1) := by decide +kernel
theorem dX3_divided_0 : decode cX3_divided 0 = .ok (.aload_n 0, 1) := by decide +kernel
theorem dX3_divided_1 : decode cX3_divided 1 = .ok (.getfield 11, 3) := by decide +kernel
theorem dX3_divided_4 : decode cX3_divided 4 = .ok (.iload_n 2, 1) := by decide +kernel
theorem dX3_divided_5 : decode cX3_divided 5 = .ok (.iaload, 1) := by decide +kernel
theorem dX3_divided_6 : decode cX3_divided 6 = .ok (.ifCond .eq 12, 3) := by decide +kernel
theorem dX3_divided_9 : decode cX3_divided 9 = .ok (.aload_n 0, 1) := by decide +kernel
theorem dX3_divided_10 : decode cX3_divided 10 = .ok (.iload_n 1, 1) := by decide +kernel
theorem dX3_divided_11 : decode cX3_divided 11 = .ok (.iload_n 2, 1) := by decide +kernel
theorem dX3_divided_12 : decode cX3_divided 12 = .ok (.invokevirtual 64, 3) := by decide +kernel
theorem dX3_divided_15 : decode cX3_divided 15 = .ok (.ifCond .ge 22, 3) := by decide +kernel
theorem dX3_divided_18 : decode cX3_divided 18 = .ok (.aload_n 0, 1) := by decide +kernel
theorem dX3_divided_19 : decode cX3_divided 19 = .ok (.getfield 15, 3) := by decide +kernel
theorem dX3_divided_22 : decode cX3_divided 22 = .ok (.istore_n 3, 1) := by decide +kernel
theorem dX3_divided_23 : decode cX3_divided 23 = .ok (.aload_n 0, 1) := by decide +kernel
theorem dX3_divided_24 : decode cX3_divided 24 = .ok (.iconst 1, 1) := by decide +kernel
theorem dX3_divided_25 : decode cX3_divided 25 = .ok (.invokevirtual 80, 3) := by decide +kernel
theorem dX3_divided_28 : decode cX3_divided 28 = .ok (.aload_n 0, 1) := by decide +kernel
theorem dX3_divided_29 : decode cX3_divided 29 = .ok (.iload_n 1, 1) := by decide +kernel
theorem dX3_divided_30 : decode cX3_divided 30 = .ok (.iconst 1, 1) := by decide +kernel
theorem dX3_divided_31 : decode cX3_divided 31 = .ok (.invokevirtual 83, 3) := by decide +kernel
theorem dX3_divided_34 : decode cX3_divided 34 = .ok (.pop, 1) := by decide +kernel
theorem dX3_divided_35 : decode cX3_divided 35 = .ok (.iload_n 3, 1) := by decide +kernel
theorem dX3_divided_36 : decode cX3_divided 36 = .ok (.ireturn, 1) := by decide +kernel
theorem dX3_divided_37 : decode cX3_divided 37 = .ok (.aload_n 0, 1) := by decide +kernel
theorem dX3_divided_38 : decode cX3_divided 38 = .ok (.getfield 11, 3) := by decide +kernel
theorem dX3_divided_41 : decode cX3_divided 41 = .ok (.iload_n 2, 1) := by decide +kernel
theorem dX3_divided_42 : decode cX3_divided 42 = .ok (.iaload, 1) := by decide +kernel
theorem dX3_divided_43 : decode cX3_divided 43 = .ok (.iconst 1, 1) := by decide +kernel
theorem dX3_divided_44 : decode cX3_divided 44 = .ok (.ishr, 1) := by decide +kernel
theorem dX3_divided_45 : decode cX3_divided 45 = .ok (.iconst 1, 1) := by decide +kernel
theorem dX3_divided_46 : decode cX3_divided 46 = .ok (.if_icmp .ne 12, 3) := by decide +kernel
theorem dX3_divided_49 : decode cX3_divided 49 = .ok (.aload_n 0, 1) := by decide +kernel
theorem dX3_divided_50 : decode cX3_divided 50 = .ok (.iload_n 1, 1) := by decide +kernel
theorem dX3_divided_51 : decode cX3_divided 51 = .ok (.iload_n 2, 1) := by decide +kernel
theorem dX3_divided_52 : decode cX3_divided 52 = .ok (.invokevirtual 86, 3) := by decide +kernel
theorem dX3_divided_55 : decode cX3_divided 55 = .ok (.goto 9, 3) := by decide +kernel
theorem dX3_divided_58 : decode cX3_divided 58 = .ok (.aload_n 0, 1) := by decide +kernel
theorem dX3_divided_59 : decode cX3_divided 59 = .ok (.iload_n 1, 1) := by decide +kernel
theorem dX3_divided_60 : decode cX3_divided 60 = .ok (.iload_n 2, 1) := by decide +kernel
theorem dX3_divided_61 : decode cX3_divided 61 = .ok (.invokevirtual 89, 3) := by decide +kernel
theorem dX3_divided_64 : decode cX3_divided 64 = .ok (.ireturn, 1) := by decide +kernel
theorem dX3_dividedByLimb_0 : decode cX3_dividedByLimb 0 = .ok (.aload_n 0, 1) := by decide +kernel
theorem dX3_dividedByLimb_1 : decode cX3_dividedByLimb 1 = .ok (.getfield 11, 3) := by decide +kernel
theorem dX3_dividedByLimb_4 : decode cX3_dividedByLimb 4 = .ok (.iload_n 1, 1) := by decide +kernel
theorem dX3_dividedByLimb_5 : decode cX3_dividedByLimb 5 = .ok (.iaload, 1) := by decide +kernel
theorem dX3_dividedByLimb_6 : decode cX3_dividedByLimb 6 = .ok (.iconst 1, 1) := by decide +kernel
theorem dX3_dividedByLimb_7 : decode cX3_dividedByLimb 7 = .ok (.ishr, 1) := by decide +kernel
theorem dX3_dividedByLimb_8 : decode cX3_dividedByLimb 8 = .ok (.istore_n 3, 1) := by decide +kernel
theorem dX3_dividedByLimb_9 : decode cX3_dividedByLimb 9 = .ok (.aload_n 0, 1) := by decide +kernel
theorem dX3_dividedByLimb_10 : decode cX3_dividedByLimb 10 = .ok (.iload_n 3, 1) := by decide +kernel
theorem dX3_dividedByLimb_11 : decode cX3_dividedByLimb 11 = .ok (.iconst 3, 1) := by decide +kernel
theorem dX3_dividedByLimb_12 : decode cX3_dividedByLimb 12 = .ok (.iadd, 1) := by decide +kernel
theorem dX3_dividedByLimb_13 : decode cX3_dividedByLimb 13 = .ok (.invokevirtual 41, 3) := by decide +kernel
theorem dX3_dividedByLimb_16 : decode cX3_dividedByLimb 16 = .ok (.aload_n 0, 1) := by decide +kernel
theorem dX3_dividedByLimb_17 : decode cX3_dividedByLimb 17 = .ok (.getfield 15, 3) := by decide +kernel
theorem dX3_dividedByLimb_20 : decode cX3_dividedByLimb 20 = .ok (.istore 4, 2) := by decide +kernel
theorem dX3_dividedByLimb_22 : decode cX3_dividedByLimb 22 = .ok (.aload_n 0, 1) := by decide +kernel
theorem dX3_dividedByLimb_23 : decode cX3_dividedByLimb 23 = .ok (.getfield 11, 3) := by decide +kernel
theorem dX3_dividedByLimb_26 : decode cX3_dividedByLimb 26 = .ok (.iload_n 2, 1) := by decide +kernel
theorem dX3_dividedByLimb_27 : decode cX3_dividedByLimb 27 = .ok (.iconst 1, 1) := by decide +kernel
theorem dX3_dividedByLimb_28 : decode cX3_dividedByLimb 28 = .ok (.iadd, 1) := by decide +kernel
theorem dX3_dividedByLimb_29 : decode cX3_dividedByLimb 29 = .ok (.iaload, 1) := by decide +kernel
theorem dX3_dividedByLimb_30 : decode cX3_dividedByLimb 30 = .ok (.iconst 1, 1) := by decide +kernel
theorem dX3_dividedByLimb_31 : decode cX3_dividedByLimb 31 = .ok (.invokestatic 29, 3) := by decide +kernel
theorem dX3_dividedByLimb_34 : decode cX3_dividedByLimb 34 = .ok (.i2l, 1) := by decide +kernel
theorem dX3_dividedByLimb_35 : decode cX3_dividedByLimb 35 = .ok (.lstore 5, 2) := by decide +kernel
theorem dX3_dividedByLimb_37 : decode cX3_dividedByLimb 37 = .ok (.lconst 0, 1) := by decide +kernel
theorem dX3_dividedByLimb_38 : decode cX3_dividedByLimb 38 = .ok (.lstore 7, 2) := by decide +kernel
theorem dX3_dividedByLimb_40 : decode cX3_dividedByLimb 40 = .ok (.iload_n 3, 1) := by decide +kernel
theorem dX3_dividedByLimb_41 : decode cX3_dividedByLimb 41 = .ok (.istore 9, 2) := by decide +kernel
theorem dX3_dividedByLimb_43 : decode cX3_dividedByLimb 43 = .ok (.iload 9, 2) := by decide +kernel
theorem dX3_dividedByLimb_45 : decode cX3_dividedByLimb 45 = .ok (.ifCond .le 58, 3) := by decide +kernel
theorem dX3_dividedByLimb_48 : decode cX3_dividedByLimb 48 = .ok (.lload 7, 2) := by decide +kernel
theorem dX3_dividedByLimb_50 : decode cX3_dividedByLimb 50 = .ok (.ldc2_w 45, 3) := by decide +kernel
theorem dX3_dividedByLimb_53 : decode cX3_dividedByLimb 53 = .ok (.lmul, 1) := by decide +kernel
theorem dX3_dividedByLimb_54 : decode cX3_dividedByLimb 54 = .ok (.aload_n 0, 1) := by decide +kernel
theorem dX3_dividedByLimb_55 : decode cX3_dividedByLimb 55 = .ok (.getfield 11, 3) := by decide +kernel
theorem dX3_dividedByLimb_58 : decode cX3_dividedByLimb 58 = .ok (.iload_n 1, 1) := by decide +kernel
theorem dX3_dividedByLimb_59 : decode cX3_dividedByLimb 59 = .ok (.iload 9, 2) := by decide +kernel
theorem dX3_dividedByLimb_61 : decode cX3_dividedByLimb 61 = .ok (.iadd, 1) := by decide +kernel
theorem dX3_dividedByLimb_62 : decode cX3_dividedByLimb 62 = .ok (.iaload, 1) := by decide +kernel
theorem dX3_dividedByLimb_63 : decode cX3_dividedByLimb 63 = .ok (.i2l, 1) := by decide +kernel
theorem dX3_dividedByLimb_64 : decode cX3_dividedByLimb 64 = .ok (.ladd, 1) := by decide +kernel
theorem dX3_dividedByLimb_65 : decode cX3_dividedByLimb 65 = .ok (.lstore 10, 2) := by decide +kernel
theorem dX3_dividedByLimb_67 : decode cX3_dividedByLimb 67 = .ok (.lload 10, 2) := by decide +kernel
theorem dX3_dividedByLimb_69 : decode cX3_dividedByLimb 69 = .ok (.lload 5, 2) := by decide +kernel
theorem dX3_dividedByLimb_71 : decode cX3_dividedByLimb 71 = .ok (.ldiv, 1) := by decide +kernel
theorem dX3_dividedByLimb_72 : decode cX3_dividedByLimb 72 = .ok (.lstore 12, 2) := by decide +kernel
theorem dX3_dividedByLimb_74 : decode cX3_dividedByLimb 74 = .ok (.aload_n 0, 1) := by decide +kernel
theorem dX3_dividedByLimb_75 : decode cX3_dividedByLimb 75 = .ok (.getfield 11, 3) := by decide +kernel
theorem dX3_dividedByLimb_78 : decode cX3_dividedByLimb 78 = .ok (.iload 4, 2) := by decide +kernel
theorem dX3_dividedByLimb_80 : decode cX3_dividedByLimb 80 = .ok (.iload 9, 2) := by decide +kernel
theorem dX3_dividedByLimb_82 : decode cX3_dividedByLimb 82 = .ok (.iadd, 1) := by decide +kernel
theorem dX3_dividedByLimb_83 : decode cX3_dividedByLimb 83 = .ok (.lload 12, 2) := by decide +kernel
theorem dX3_dividedByLimb_85 : decode cX3_dividedByLimb 85 = .ok (.l2i, 1) := by decide +kernel
theorem dX3_dividedByLimb_86 : decode cX3_dividedByLimb 86 = .ok (.iastore, 1) := by decide +kernel
theorem dX3_dividedByLimb_87 : decode cX3_dividedByLimb 87 = .ok (.lload 10, 2) := by decide +kernel
