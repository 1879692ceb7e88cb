theorem dX7_copy_66 : decode cX7_copy 66 = .ok (.return_, 1) := by decide +kernel
theorem dX7_trim_0 : decode cX7_trim 0 = .ok (.aload_n 0, 1) := by decide +kernel
theorem dX7_trim_1 : decode cX7_trim 1 = .ok (.getfield 11, 3) := by decide +kernel
theorem dX7_trim_4 : decode cX7_trim 4 = .ok (.iload_n 1, 1) := by decide +kernel
theorem dX7_trim_5 : decode cX7_trim 5 = .ok (.iaload, 1) := by decide +kernel
theorem dX7_trim_6 : decode cX7_trim 6 = .ok (.ifCond .le 38, 3) := by decide +kernel
theorem dX7_trim_9 : decode cX7_trim 9 = .ok (.aload_n 0, 1) := by decide +kernel
theorem dX7_trim_10 : decode cX7_trim 10 = .ok (.getfield 16, 3) := by decide +kernel
theorem dX7_trim_13 : decode cX7_trim 13 = .ok (.sipush 2500, 3) := by decide +kernel
theorem dX7_trim_16 : decode cX7_trim 16 = .ok (.iload_n 1, 1) := by decide +kernel
theorem dX7_trim_17 : decode cX7_trim 17 = .ok (.imul, 1) := by decide +kernel
theorem dX7_trim_18 : decode cX7_trim 18 = .ok (.aload_n 0, 1) := by decide +kernel
theorem dX7_trim_19 : decode cX7_trim 19 = .ok (.getfield 11, 3) := by decide +kernel
theorem dX7_trim_22 : decode cX7_trim 22 = .ok (.iload_n 1, 1) := by decide +kernel
theorem dX7_trim_23 : decode cX7_trim 23 = .ok (.iaload, 1) := by decide +kernel
theorem dX7_trim_24 : decode cX7_trim 24 = .ok (.iadd, 1) := by decide +kernel
theorem dX7_trim_25 : decode cX7_trim 25 = .ok (.iconst 1, 1) := by decide +kernel
theorem dX7_trim_26 : decode cX7_trim 26 = .ok (.isub, 1) := by decide +kernel
theorem dX7_trim_27 : decode cX7_trim 27 = .ok (.iaload, 1) := by decide +kernel
theorem dX7_trim_28 : decode cX7_trim 28 = .ok (.ifCond .ne 16, 3) := by decide +kernel
theorem dX7_trim_31 : decode cX7_trim 31 = .ok (.aload_n 0, 1) := by decide +kernel
theorem dX7_trim_32 : decode cX7_trim 32 = .ok (.getfield 11, 3) := by decide +kernel
theorem dX7_trim_35 : decode cX7_trim 35 = .ok (.iload_n 1, 1) := by decide +kernel
theorem dX7_trim_36 : decode cX7_trim 36 = .ok (.dup2, 1) := by decide +kernel
theorem dX7_trim_37 : decode cX7_trim 37 = .ok (.iaload, 1) := by decide +kernel
theorem dX7_trim_38 : decode cX7_trim 38 = .ok (.iconst 1, 1) := by decide +kernel
theorem dX7_trim_39 : decode cX7_trim 39 = .ok (.isub, 1) := by decide +kernel
theorem dX7_trim_40 : decode cX7_trim 40 = .ok (.iastore, 1) := by decide +kernel
theorem dX7_trim_41 : decode cX7_trim 41 = .ok (.goto (-41), 3) := by decide +kernel
theorem dX7_trim_44 : decode cX7_trim 44 = .ok (.aload_n 0, 1) := by decide +kernel
theorem dX7_trim_45 : decode cX7_trim 45 = .ok (.getfield 7, 3) := by decide +kernel
theorem dX7_trim_48 : decode cX7_trim 48 = .ok (.iload_n 1, 1) := by decide +kernel
theorem dX7_trim_49 : decode cX7_trim 49 = .ok (.aload_n 0, 1) := by decide +kernel
theorem dX7_trim_50 : decode cX7_trim 50 = .ok (.getfield 11, 3) := by decide +kernel
theorem dX7_trim_53 : decode cX7_trim 53 = .ok (.iload_n 1, 1) := by decide +kernel
theorem dX7_trim_54 : decode cX7_trim 54 = .ok (.iaload, 1) := by decide +kernel
theorem dX7_trim_55 : decode cX7_trim 55 = .ok (.ifCond .ne 7, 3) := by decide +kernel
theorem dX7_trim_58 : decode cX7_trim 58 = .ok (.iconst 0, 1) := by decide +kernel
theorem dX7_trim_59 : decode cX7_trim 59 = .ok (.goto 9, 3) := by decide +kernel
theorem dX7_trim_62 : decode cX7_trim 62 = .ok (.aload_n 0, 1) := by decide +kernel
theorem dX7_trim_63 : decode cX7_trim 63 = .ok (.getfield 7, 3) := by decide +kernel
theorem dX7_trim_66 : decode cX7_trim 66 = .ok (.iload_n 1, 1) := by decide +kernel
theorem dX7_trim_67 : decode cX7_trim 67 = .ok (.iaload, 1) := by decide +kernel
theorem dX7_trim_68 : decode cX7_trim 68 = .ok (.iastore, 1) := by decide +kernel
theorem dX7_trim_69 : decode cX7_trim 69 = .ok (.return_, 1) := by decide +kernel
theorem dX7_compareSizes_0 : decode cX7_compareSizes 0 = .ok (.aload_n 0, 1) := by decide +kernel
theorem dX7_compareSizes_1 : decode cX7_compareSizes 1 = .ok (.getfield 11, 3) := by decide +kernel
theorem dX7_compareSizes_4 : decode cX7_compareSizes 4 = .ok (.iload_n 1, 1) := by decide +kernel
theorem dX7_compareSizes_5 : decode cX7_compareSizes 5 = .ok (.iaload, 1) := by decide +kernel
theorem dX7_compareSizes_6 : decode cX7_compareSizes 6 = .ok (.aload_n 0, 1) := by decide +kernel
theorem dX7_compareSizes_7 : decode cX7_compareSizes 7 = .ok (.getfield 11, 3) := by decide +kernel
theorem dX7_compareSizes_10 : decode cX7_compareSizes 10 = .ok (.iload_n 2, 1) := by decide +kernel
theorem dX7_compareSizes_11 : decode cX7_compareSizes 11 = .ok (.iaload, 1) := by decide +kernel
theorem dX7_compareSizes_12 : decode cX7_compareSizes 12 = .ok (.if_icmp .eq 24, 3) := by decide +kernel
theorem dX7_compareSizes_15 : decode cX7_compareSizes 15 = .ok (.aload_n 0, 1) := by decide +kernel
theorem dX7_compareSizes_16 : decode cX7_compareSizes 16 = .ok (.getfield 11, 3) := by decide +kernel
theorem dX7_compareSizes_19 : decode cX7_compareSizes 19 = .ok (.iload_n 1, 1) := by decide +kernel
theorem dX7_compareSizes_20 : decode cX7_compareSizes 20 = .ok (.iaload, 1) := by decide +kernel
theorem dX7_compareSizes_21 : decode cX7_compareSizes 21 = .ok (.aload_n 0, 1) := by decide +kernel
theorem dX7_compareSizes_22 : decode cX7_compareSizes 22 = .ok (.getfield 11, 3) := by decide +kernel
theorem dX7_compareSizes_25 : decode cX7_compareSizes 25 = .ok (.iload_n 2, 1) := by decide +kernel
theorem dX7_compareSizes_26 : decode cX7_compareSizes 26 = .ok (.iaload, 1) := by decide +kernel
theorem dX7_compareSizes_27 : decode cX7_compareSizes 27 = .ok (.if_icmp .ge 7, 3) := by decide +kernel
theorem dX7_compareSizes_30 : decode cX7_compareSizes 30 = .ok (.iconst (-1), 1) := by decide +kernel
theorem dX7_compareSizes_31 : decode cX7_compareSizes 31 = .ok (.goto 4, 3) := by decide +kernel
theorem dX7_compareSizes_34 : decode cX7_compareSizes 34 = .ok (.iconst 1, 1) := by decide +kernel
theorem dX7_compareSizes_35 : decode cX7_compareSizes 35 = .ok (.ireturn, 1) := by decide +kernel
theorem dX7_compareSizes_36 : decode cX7_compareSizes 36 = .ok (.aload_n 0, 1) := by decide +kernel
theorem dX7_compareSizes_37 : decode cX7_compareSizes 37 = .ok (.getfield 11, 3) := by decide +kernel
theorem dX7_compareSizes_40 : decode cX7_compareSizes 40 = .ok (.iload_n 1, 1) := by decide +kernel
theorem dX7_compareSizes_41 : decode cX7_compareSizes 41 = .ok (.iaload, 1) := by decide +kernel
theorem dX7_compareSizes_42 : decode cX7_compareSizes 42 = .ok (.iconst 1, 1) := by decide +kernel
theorem dX7_compareSizes_43 : decode cX7_compareSizes 43 = .ok (.isub, 1) := by decide +kernel
theorem dX7_compareSizes_44 : decode cX7_compareSizes 44 = .ok (.istore_n 3, 1) := by decide +kernel
theorem dX7_compareSizes_45 : decode cX7_compareSizes 45 = .ok (.iload_n 3, 1) := by decide +kernel
theorem dX7_compareSizes_46 : decode cX7_compareSizes 46 = .ok (.ifCond .lt 57, 3) := by decide +kernel
theorem dX7_compareSizes_49 : decode cX7_compareSizes 49 = .ok (.aload_n 0, 1) := by decide +kernel
theorem dX7_compareSizes_50 : decode cX7_compareSizes 50 = .ok (.getfield 16, 3) := by decide +kernel
theorem dX7_compareSizes_53 : decode cX7_compareSizes 53 = .ok (.sipush 2500, 3) := by decide +kernel
theorem dX7_compareSizes_56 : decode cX7_compareSizes 56 = .ok (.iload_n 1, 1) := by decide +kernel
theorem dX7_compareSizes_57 : decode cX7_compareSizes 57 = .ok (.imul, 1) := by decide +kernel
theorem dX7_compareSizes_58 : decode cX7_compareSizes 58 = .ok (.iload_n 3, 1) := by decide +kernel
theorem dX7_compareSizes_59 : decode cX7_compareSizes 59 = .ok (.iadd, 1) := by decide +kernel
theorem dX7_compareSizes_60 : decode cX7_compareSizes 60 = .ok (.iaload, 1) := by decide +kernel
theorem dX7_compareSizes_61 : decode cX7_compareSizes 61 = .ok (.istore 4, 2) := by decide +kernel
theorem dX7_compareSizes_63 : decode cX7_compareSizes 63 = .ok (.aload_n 0, 1) := by decide +kernel
theorem dX7_compareSizes_64 : decode cX7_compareSizes 64 = .ok (.getfield 16, 3) := by decide +kernel
theorem dX7_compareSizes_67 : decode cX7_compareSizes 67 = .ok (.sipush 2500, 3) := by decide +kernel
theorem dX7_compareSizes_70 : decode cX7_compareSizes 70 = .ok (.iload_n 2, 1) := by decide +kernel
theorem dX7_compareSizes_71 : decode cX7_compareSizes 71 = .ok (.imul, 1) := by decide +kernel
theorem dX7_compareSizes_72 : decode cX7_compareSizes 72 = .ok (.iload_n 3, 1) := by decide +kernel
theorem dX7_compareSizes_73 : decode cX7_compareSizes 73 = .ok (.iadd, 1) := by decide +kernel
theorem dX7_compareSizes_74 : decode cX7_compareSizes 74 = .ok (.iaload, 1) := by decide +kernel
theorem dX7_compareSizes_75 : decode cX7_compareSizes 75 = .ok (.istore 5, 2) := by decide +kernel
theorem dX7_compareSizes_77 : decode cX7_compareSizes 77 = .ok (.iload 4, 2) := by decide +kernel
theorem dX7_compareSizes_79 : decode cX7_compareSizes 79 = .ok (.iload 5, 2) := by decide +kernel
theorem dX7_compareSizes_81 : decode cX7_compareSizes 81 = .ok (.if_icmp .eq 16, 3) := by decide +kernel
theorem dX7_compareSizes_84 : decode cX7_compareSizes 84 = .ok (.iload 4, 2) := by decide +kernel
theorem dX7_compareSizes_86 : decode cX7_compareSizes 86 = .ok (.iload 5, 2) := by decide +kernel
theorem dX7_compareSizes_88 : decode cX7_compareSizes 88 = .ok (.if_icmp .ge 7, 3) := by decide +kernel
theorem dX7_compareSizes_91 : decode cX7_compareSizes 91 = .ok (.iconst (-1), 1) := by decide +kernel
theorem dX7_compareSizes_92 : decode cX7_compareSizes 92 = .ok (.goto 4, 3) := by decide +kernel
theorem dX7_compareSizes_95 : decode cX7_compareSizes 95 = .ok (.iconst 1, 1) := by decide +kernel
theorem dX7_compareSizes_96 : decode cX7_compareSizes 96 = .ok (.ireturn, 1) := by decide +kernel
theorem dX7_compareSizes_97 : decode cX7_compareSizes 97 = .ok (.iinc 3 (-1), 3) := by decide +kernel
theorem dX7_compareSizes_100 : decode cX7_compareSizes 100 = .ok (.goto (-55), 3) := by decide +kernel
theorem dX7_compareSizes_103 : decode cX7_compareSizes 103 = .ok (.iconst 0, 1) := by decide +kernel
theorem dX7_compareSizes_104 : decode cX7_compareSizes 104 = .ok (.ireturn, 1) := by decide +kernel
theorem dX7_divideSizes_0 : decode cX7_divideSizes 0 = .ok (.aload_n 0, 1) := by decide +kernel
theorem dX7_divideSizes_1 : decode cX7_divideSizes 1 = .ok (.iload_n 1, 1) := by decide +kernel
theorem dX7_divideSizes_2 : decode cX7_divideSizes 2 = .ok (.iload_n 2, 1) := by decide +kernel
theorem dX7_divideSizes_3 : decode cX7_divideSizes 3 = .ok (.invokevirtual 19, 3) := by decide +kernel
theorem dX7_divideSizes_6 : decode cX7_divideSizes 6 = .ok (.ifCond .ge 39, 3) := by decide +kernel
theorem dX7_divideSizes_9 : decode cX7_divideSizes 9 = .ok (.aload_n 0, 1) := by decide +kernel
theorem dX7_divideSizes_10 : decode cX7_divideSizes 10 = .ok (.iload_n 1, 1) := by decide +kernel
theorem dX7_divideSizes_11 : decode cX7_divideSizes 11 = .ok (.iload 4, 2) := by decide +kernel
theorem dX7_divideSizes_13 : decode cX7_divideSizes 13 = .ok (.invokevirtual 24, 3) := by decide +kernel
theorem dX7_divideSizes_16 : decode cX7_divideSizes 16 = .ok (.aload_n 0, 1) := by decide +kernel
theorem dX7_divideSizes_17 : decode cX7_divideSizes 17 = .ok (.getfield 7, 3) := by decide +kernel
theorem dX7_divideSizes_20 : decode cX7_divideSizes 20 = .ok (.iload 4, 2) := by decide +kernel
theorem dX7_divideSizes_22 : decode cX7_divideSizes 22 = .ok (.aload_n 0, 1) := by decide +kernel
theorem dX7_divideSizes_23 : decode cX7_divideSizes 23 = .ok (.getfield 11, 3) := by decide +kernel
theorem dX7_divideSizes_26 : decode cX7_divideSizes 26 = .ok (.iload 4, 2) := by decide +kernel
theorem dX7_divideSizes_28 : decode cX7_divideSizes 28 = .ok (.iaload, 1) := by decide +kernel
theorem dX7_divideSizes_29 : decode cX7_divideSizes 29 = .ok (.ifCond .ne 7, 3) := by decide +kernel
theorem dX7_divideSizes_32 : decode cX7_divideSizes 32 = .ok (.iconst 0, 1) := by decide +kernel
theorem dX7_divideSizes_33 : decode cX7_divideSizes 33 = .ok (.goto 4, 3) := by decide +kernel
theorem dX7_divideSizes_36 : decode cX7_divideSizes 36 = .ok (.iconst 1, 1) := by decide +kernel
theorem dX7_divideSizes_37 : decode cX7_divideSizes 37 = .ok (.iastore, 1) := by decide +kernel
theorem dX7_divideSizes_38 : decode cX7_divideSizes 38 = .ok (.aload_n 0, 1) := by decide +kernel
theorem dX7_divideSizes_39 : decode cX7_divideSizes 39 = .ok (.iload_n 3, 1) := by decide +kernel
theorem dX7_divideSizes_40 : decode cX7_divideSizes 40 = .ok (.lconst 0, 1) := by decide +kernel
theorem dX7_divideSizes_41 : decode cX7_divideSizes 41 = .ok (.invokevirtual 47, 3) := by decide +kernel
theorem dX7_divideSizes_44 : decode cX7_divideSizes 44 = .ok (.return_, 1) := by decide +kernel
theorem dX7_divideSizes_45 : decode cX7_divideSizes 45 = .ok (.aload_n 0, 1) := by decide +kernel
theorem dX7_divideSizes_46 : decode cX7_divideSizes 46 = .ok (.getfield 11, 3) := by decide +kernel
theorem dX7_divideSizes_49 : decode cX7_divideSizes 49 = .ok (.iload_n 2, 1) := by decide +kernel
theorem dX7_divideSizes_50 : decode cX7_divideSizes 50 = .ok (.iaload, 1) := by decide +kernel
theorem dX7_divideSizes_51 : decode cX7_divideSizes 51 = .ok (.iconst 1, 1) := by decide +kernel
theorem dX7_divideSizes_52 : decode cX7_divideSizes 52 = .ok (.if_icmp .ne 122, 3) := by decide +kernel
theorem dX7_divideSizes_55 : decode cX7_divideSizes 55 = .ok (.lconst 0, 1) := by decide +kernel
theorem dX7_divideSizes_56 : decode cX7_divideSizes 56 = .ok (.lstore 5, 2) := by decide +kernel
theorem dX7_divideSizes_58 : decode cX7_divideSizes 58 = .ok (.aload_n 0, 1) := by decide +kernel
theorem dX7_divideSizes_59 : decode cX7_divideSizes 59 = .ok (.getfield 16, 3) := by decide +kernel
theorem dX7_divideSizes_62 : decode cX7_divideSizes 62 = .ok (.sipush 2500, 3) := by decide +kernel
theorem dX7_divideSizes_65 : decode cX7_divideSizes 65 = .ok (.iload_n 2, 1) := by decide +kernel
theorem dX7_divideSizes_66 : decode cX7_divideSizes 66 = .ok (.imul, 1) := by decide +kernel
theorem dX7_divideSizes_67 : decode cX7_divideSizes 67 = .ok (.iaload, 1) := by decide +kernel
theorem dX7_divideSizes_68 : decode cX7_divideSizes 68 = .ok (.i2l, 1) := by decide +kernel
theorem dX7_divideSizes_69 : decode cX7_divideSizes 69 = .ok (.lstore 7, 2) := by decide +kernel
theorem dX7_divideSizes_71 : decode cX7_divideSizes 71 = .ok (.aload_n 0, 1) := by decide +kernel
theorem dX7_divideSizes_72 : decode cX7_divideSizes 72 = .ok (.getfield 11, 3) := by decide +kernel
theorem dX7_divideSizes_75 : decode cX7_divideSizes 75 = .ok (.iload_n 1, 1) := by decide +kernel
theorem dX7_divideSizes_76 : decode cX7_divideSizes 76 = .ok (.iaload, 1) := by decide +kernel
theorem dX7_divideSizes_77 : decode cX7_divideSizes 77 = .ok (.iconst 1, 1) := by decide +kernel
theorem dX7_divideSizes_78 : decode cX7_divideSizes 78 = .ok (.isub, 1) := by decide +kernel
theorem dX7_divideSizes_79 : decode cX7_divideSizes 79 = .ok (.istore 9, 2) := by decide +kernel
theorem dX7_divideSizes_81 : decode cX7_divideSizes 81 = .ok (.iload 9, 2) := by decide +kernel
theorem dX7_divideSizes_83 : decode cX7_divideSizes 83 = .ok (.ifCond .lt 58, 3) := by decide +kernel
theorem dX7_divideSizes_86 : decode cX7_divideSizes 86 = .ok (.lload 5, 2) := by decide +kernel
theorem dX7_divideSizes_88 : decode cX7_divideSizes 88 = .ok (.ldc2_w 14, 3) := by decide +kernel
theorem dX7_divideSizes_91 : decode cX7_divideSizes 91 = .ok (.lmul, 1) := by decide +kernel
theorem dX7_divideSizes_92 : decode cX7_divideSizes 92 = .ok (.aload_n 0, 1) := by decide +kernel
theorem dX7_divideSizes_93 : decode cX7_divideSizes 93 = .ok (.getfield 16, 3) := by decide +kernel
theorem dX7_divideSizes_96 : decode cX7_divideSizes 96 = .ok (.sipush 2500, 3) := by decide +kernel
theorem dX7_divideSizes_99 : decode cX7_divideSizes 99 = .ok (.iload_n 1, 1) := by decide +kernel
theorem dX7_divideSizes_100 : decode cX7_divideSizes 100 = .ok (.imul, 1) := by decide +kernel
theorem dX7_divideSizes_101 : decode cX7_divideSizes 101 = .ok (.iload 9, 2) := by decide +kernel
theorem dX7_divideSizes_103 : decode cX7_divideSizes 103 = .ok (.iadd, 1) := by decide +kernel
theorem dX7_divideSizes_104 : decode cX7_divideSizes 104 = .ok (.iaload, 1) := by decide +kernel
theorem dX7_divideSizes_105 : decode cX7_divideSizes 105 = .ok (.i2l, 1) := by decide +kernel
theorem dX7_divideSizes_106 : decode cX7_divideSizes 106 = .ok (.ladd, 1) := by decide +kernel
theorem dX7_divideSizes_107 : decode cX7_divideSizes 107 = .ok (.lstore 10, 2) := by decide +kernel
theorem dX7_divideSizes_109 : decode cX7_divideSizes 109 = .ok (.aload_n 0, 1) := by decide +kernel
theorem dX7_divideSizes_110 : decode cX7_divideSizes 110 = .ok (.getfield 16, 3) := by decide +kernel
theorem dX7_divideSizes_113 : decode cX7_divideSizes 113 = .ok (.sipush 2500, 3) := by decide +kernel
theorem dX7_divideSizes_116 : decode cX7_divideSizes 116 = .ok (.iload_n 3, 1) := by decide +kernel
theorem dX7_divideSizes_117 : decode cX7_divideSizes 117 = .ok (.imul, 1) := by decide +kernel
theorem dX7_divideSizes_118 : decode cX7_divideSizes 118 = .ok (.iload 9, 2) := by decide +kernel
theorem dX7_divideSizes_120 : decode cX7_divideSizes 120 = .ok (.iadd, 1) := by decide +kernel
theorem dX7_divideSizes_121 : decode cX7_divideSizes 121 = .ok (.lload 10, 2) := by decide +kernel
theorem dX7_divideSizes_123 : decode cX7_divideSizes 123 = .ok (.lload 7, 2) := by decide +kernel
theorem dX7_divideSizes_125 : decode cX7_divideSizes 125 = .ok (.ldiv, 1) := by decide +kernel
theorem dX7_divideSizes_126 : decode cX7_divideSizes 126 = .ok (.l2i, 1) := by decide +kernel
theorem dX7_divideSizes_127 : decode cX7_divideSizes 127 = .ok (.iastore, 1) := by decide +kernel
theorem dX7_divideSizes_128 : decode cX7_divideSizes 128 = .ok (.lload 10, 2) := by decide +kernel
theorem dX7_divideSizes_130 : decode cX7_divideSizes 130 = .ok (.lload 7, 2) := by decide +kernel
theorem dX7_divideSizes_132 : decode cX7_divideSizes 132 = .ok (.lrem, 1) := by decide +kernel
theorem dX7_divideSizes_133 : decode cX7_divideSizes 133 = .ok (.lstore 5, 2) := by decide +kernel
theorem dX7_divideSizes_135 : decode cX7_divideSizes 135 = .ok (.iinc 9 (-1), 3) := by decide +kernel
theorem dX7_divideSizes_138 : decode cX7_divideSizes 138 = .ok (.goto (-57), 3) := by decide +kernel
theorem dX7_divideSizes_141 : decode cX7_divideSizes 141 = .ok (.aload_n 0, 1) := by decide +kernel
theorem dX7_divideSizes_142 : decode cX7_divideSizes 142 = .ok (.getfield 11, 3) := by decide +kernel
theorem dX7_divideSizes_145 : decode cX7_divideSizes 145 = .ok (.iload_n 3, 1) := by decide +kernel
theorem dX7_divideSizes_146 : decode cX7_divideSizes 146 = .ok (.aload_n 0, 1) := by decide +kernel
theorem dX7_divideSizes_147 : decode cX7_divideSizes 147 = .ok (.getfield 11, 3) := by decide +kernel
theorem dX7_divideSizes_150 : decode cX7_divideSizes 150 = .ok (.iload_n 1, 1) := by decide +kernel
theorem dX7_divideSizes_151 : decode cX7_divideSizes 151 = .ok (.iaload, 1) := by decide +kernel
theorem dX7_divideSizes_152 : decode cX7_divideSizes 152 = .ok (.iastore, 1) := by decide +kernel
theorem dX7_divideSizes_153 : decode cX7_divideSizes 153 = .ok (.aload_n 0, 1) := by decide +kernel
theorem dX7_divideSizes_154 : decode cX7_divideSizes 154 = .ok (.getfield 7, 3) := by decide +kernel
theorem dX7_divideSizes_157 : decode cX7_divideSizes 157 = .ok (.iload_n 3, 1) := by decide +kernel
theorem dX7_divideSizes_158 : decode cX7_divideSizes 158 = .ok (.iconst 1, 1) := by decide +kernel
theorem dX7_divideSizes_159 : decode cX7_divideSizes 159 = .ok (.iastore, 1) := by decide +kernel
theorem dX7_divideSizes_160 : decode cX7_divideSizes 160 = .ok (.aload_n 0, 1) := by decide +kernel
theorem dX7_divideSizes_161 : decode cX7_divideSizes 161 = .ok (.iload_n 3, 1) := by decide +kernel
theorem dX7_divideSizes_162 : decode cX7_divideSizes 162 = .ok (.invokevirtual 35, 3) := by decide +kernel
theorem dX7_divideSizes_165 : decode cX7_divideSizes 165 = .ok (.aload_n 0, 1) := by decide +kernel
theorem dX7_divideSizes_166 : decode cX7_divideSizes 166 = .ok (.iload 4, 2) := by decide +kernel
theorem dX7_divideSizes_168 : decode cX7_divideSizes 168 = .ok (.lload 5, 2) := by decide +kernel
theorem dX7_divideSizes_170 : decode cX7_divideSizes 170 = .ok (.invokevirtual 47, 3) := by decide +kernel
theorem dX7_divideSizes_173 : decode cX7_divideSizes 173 = .ok (.return_, 1) := by decide +kernel
theorem dX7_divideSizes_174 : decode cX7_divideSizes 174 = .ok (.aload_n 0, 1) := by decide +kernel
theorem dX7_divideSizes_175 : decode cX7_divideSizes 175 = .ok (.iconst 1, 1) := by decide +kernel
theorem dX7_divideSizes_176 : decode cX7_divideSizes 176 = .ok (.invokevirtual 43, 3) := by decide +kernel
theorem dX7_divideSizes_179 : decode cX7_divideSizes 179 = .ok (.istore 5, 2) := by decide +kernel
theorem dX7_divideSizes_181 : decode cX7_divideSizes 181 = .ok (.ldc2_w 14, 3) := by decide +kernel
theorem dX7_divideSizes_184 : decode cX7_divideSizes 184 = .ok (.aload_n 0, 1) := by decide +kernel
theorem dX7_divideSizes_185 : decode cX7_divideSizes 185 = .ok (.getfield 16, 3) := by decide +kernel
theorem dX7_divideSizes_188 : decode cX7_divideSizes 188 = .ok (.sipush 2500, 3) := by decide +kernel
theorem dX7_divideSizes_191 : decode cX7_divideSizes 191 = .ok (.iload_n 2, 1) := by decide +kernel
theorem dX7_divideSizes_192 : decode cX7_divideSizes 192 = .ok (.imul, 1) := by decide +kernel
theorem dX7_divideSizes_193 : decode cX7_divideSizes 193 = .ok (.aload_n 0, 1) := by decide +kernel
theorem dX7_divideSizes_194 : decode cX7_divideSizes 194 = .ok (.getfield 11, 3) := by decide +kernel
theorem dX7_divideSizes_197 : decode cX7_divideSizes 197 = .ok (.iload_n 2, 1) := by decide +kernel
theorem dX7_divideSizes_198 : decode cX7_divideSizes 198 = .ok (.iaload, 1) := by decide +kernel
theorem dX7_divideSizes_199 : decode cX7_divideSizes 199 = .ok (.iadd, 1) := by decide +kernel
theorem dX7_divideSizes_200 : decode cX7_divideSizes 200 = .ok (.iconst 1, 1) := by decide +kernel
theorem dX7_divideSizes_201 : decode cX7_divideSizes 201 = .ok (.isub, 1) := by decide +kernel
theorem dX7_divideSizes_202 : decode cX7_divideSizes 202 = .ok (.iaload, 1) := by decide +kernel
theorem dX7_divideSizes_203 : decode cX7_divideSizes 203 = .ok (.i2l, 1) := by decide +kernel
theorem dX7_divideSizes_204 : decode cX7_divideSizes 204 = .ok (.lconst 1, 1) := by decide +kernel
theorem dX7_divideSizes_205 : decode cX7_divideSizes 205 = .ok (.ladd, 1) := by decide +kernel
theorem dX7_divideSizes_206 : decode cX7_divideSizes 206 = .ok (.ldiv, 1) := by decide +kernel
theorem dX7_divideSizes_207 : decode cX7_divideSizes 207 = .ok (.lstore 6, 2) := by decide +kernel
theorem dX7_divideSizes_209 : decode cX7_divideSizes 209 = .ok (.aload_n 0, 1) := by decide +kernel
theorem dX7_divideSizes_210 : decode cX7_divideSizes 210 = .ok (.iload_n 1, 1) := by decide +kernel
theorem dX7_divideSizes_211 : decode cX7_divideSizes 211 = .ok (.lload 6, 2) := by decide +kernel
theorem dX7_divideSizes_213 : decode cX7_divideSizes 213 = .ok (.iload 4, 2) := by decide +kernel
theorem dX7_divideSizes_215 : decode cX7_divideSizes 215 = .ok (.invokevirtual 54, 3) := by decide +kernel
theorem dX7_divideSizes_218 : decode cX7_divideSizes 218 = .ok (.aload_n 0, 1) := by decide +kernel
theorem dX7_divideSizes_219 : decode cX7_divideSizes 219 = .ok (.iload_n 2, 1) := by decide +kernel
theorem dX7_divideSizes_220 : decode cX7_divideSizes 220 = .ok (.lload 6, 2) := by decide +kernel
theorem dX7_divideSizes_222 : decode cX7_divideSizes 222 = .ok (.iload 5, 2) := by decide +kernel
theorem dX7_divideSizes_224 : decode cX7_divideSizes 224 = .ok (.invokevirtual 54, 3) := by decide +kernel
theorem dX7_divideSizes_227 : decode cX7_divideSizes 227 = .ok (.aload_n 0, 1) := by decide +kernel
theorem dX7_divideSizes_228 : decode cX7_divideSizes 228 = .ok (.iload 5, 2) := by decide +kernel
theorem dX7_divideSizes_230 : decode cX7_divideSizes 230 = .ok (.invokevirtual 35, 3) := by decide +kernel
theorem dX7_divideSizes_233 : decode cX7_divideSizes 233 = .ok (.aload_n 0, 1) := by decide +kernel
theorem dX7_divideSizes_234 : decode cX7_divideSizes 234 = .ok (.getfield 11, 3) := by decide +kernel
theorem dX7_divideSizes_237 : decode cX7_divideSizes 237 = .ok (.iload 5, 2) := by decide +kernel
theorem dX7_divideSizes_239 : decode cX7_divideSizes 239 = .ok (.iaload, 1) := by decide +kernel
theorem dX7_divideSizes_240 : decode cX7_divideSizes 240 = .ok (.istore 8, 2) := by decide +kernel
theorem dX7_divideSizes_242 : decode cX7_divideSizes 242 = .ok (.aload_n 0, 1) := by decide +kernel
theorem dX7_divideSizes_243 : decode cX7_divideSizes 243 = .ok (.getfield 11, 3) := by decide +kernel
theorem dX7_divideSizes_246 : decode cX7_divideSizes 246 = .ok (.iload_n 1, 1) := by decide +kernel
theorem dX7_divideSizes_247 : decode cX7_divideSizes 247 = .ok (.iaload, 1) := by decide +kernel
theorem dX7_divideSizes_248 : decode cX7_divideSizes 248 = .ok (.aload_n 0, 1) := by decide +kernel
theorem dX7_divideSizes_249 : decode cX7_divideSizes 249 = .ok (.getfield 11, 3) := by decide +kernel
theorem dX7_divideSizes_252 : decode cX7_divideSizes 252 = .ok (.iload_n 2, 1) := by decide +kernel
theorem dX7_divideSizes_253 : decode cX7_divideSizes 253 = .ok (.iaload, 1) := by decide +kernel
theorem dX7_divideSizes_254 : decode cX7_divideSizes 254 = .ok (.isub, 1) := by decide +kernel
theorem dX7_divideSizes_255 : decode cX7_divideSizes 255 = .ok (.istore 9, 2) := by decide +kernel
theorem dX7_divideSizes_257 : decode cX7_divideSizes 257 = .ok (.iload 9, 2) := by decide +kernel
theorem dX7_divideSizes_259 : decode cX7_divideSizes 259 = .ok (.istore 10, 2) := by decide +kernel
theorem dX7_divideSizes_261 : decode cX7_divideSizes 261 = .ok (.iload 10, 2) := by decide +kernel
theorem dX7_divideSizes_263 : decode cX7_divideSizes 263 = .ok (.ifCond .lt 34, 3) := by decide +kernel
theorem dX7_divideSizes_266 : decode cX7_divideSizes 266 = .ok (.aload_n 0, 1) := by decide +kernel
theorem dX7_divideSizes_267 : decode cX7_divideSizes 267 = .ok (.getfield 16, 3) := by decide +kernel
theorem dX7_divideSizes_270 : decode cX7_divideSizes 270 = .ok (.sipush 2500, 3) := by decide +kernel
theorem dX7_divideSizes_273 : decode cX7_divideSizes 273 = .ok (.iload_n 3, 1) := by decide +kernel
theorem dX7_divideSizes_274 : decode cX7_divideSizes 274 = .ok (.imul, 1) := by decide +kernel
theorem dX7_divideSizes_275 : decode cX7_divideSizes 275 = .ok (.iload 10, 2) := by decide +kernel
theorem dX7_divideSizes_277 : decode cX7_divideSizes 277 = .ok (.iadd, 1) := by decide +kernel
theorem dX7_divideSizes_278 : decode cX7_divideSizes 278 = .ok (.aload_n 0, 1) := by decide +kernel
theorem dX7_divideSizes_279 : decode cX7_divideSizes 279 = .ok (.iload 4, 2) := by decide +kernel
theorem dX7_divideSizes_281 : decode cX7_divideSizes 281 = .ok (.iload 5, 2) := by decide +kernel
theorem dX7_divideSizes_283 : decode cX7_divideSizes 283 = .ok (.iload 10, 2) := by decide +kernel
theorem dX7_divideSizes_285 : decode cX7_divideSizes 285 = .ok (.iload 8, 2) := by decide +kernel
theorem dX7_divideSizes_287 : decode cX7_divideSizes 287 = .ok (.invokevirtual 58, 3) := by decide +kernel
theorem dX7_divideSizes_290 : decode cX7_divideSizes 290 = .ok (.iastore, 1) := by decide +kernel
theorem dX7_divideSizes_291 : decode cX7_divideSizes 291 = .ok (.iinc 10 (-1), 3) := by decide +kernel
theorem dX7_divideSizes_294 : decode cX7_divideSizes 294 = .ok (.goto (-33), 3) := by decide +kernel
theorem dX7_divideSizes_297 : decode cX7_divideSizes 297 = .ok (.aload_n 0, 1) := by decide +kernel
theorem dX7_divideSizes_298 : decode cX7_divideSizes 298 = .ok (.getfield 11, 3) := by decide +kernel
theorem dX7_divideSizes_301 : decode cX7_divideSizes 301 = .ok (.iload_n 3, 1) := by decide +kernel
theorem dX7_divideSizes_302 : decode cX7_divideSizes 302 = .ok (.iload 9, 2) := by decide +kernel
theorem dX7_divideSizes_304 : decode cX7_divideSizes 304 = .ok (.iconst 1, 1) := by decide +kernel
theorem dX7_divideSizes_305 : decode cX7_divideSizes 305 = .ok (.iadd, 1) := by decide +kernel
theorem dX7_divideSizes_306 : decode cX7_divideSizes 306 = .ok (.iastore, 1) := by decide +kernel
theorem dX7_divideSizes_307 : decode cX7_divideSizes 307 = .ok (.aload_n 0, 1) := by decide +kernel
theorem dX7_divideSizes_308 : decode cX7_divideSizes 308 = .ok (.getfield 7, 3) := by decide +kernel
theorem dX7_divideSizes_311 : decode cX7_divideSizes 311 = .ok (.iload_n 3, 1) := by decide +kernel
theorem dX7_divideSizes_312 : decode cX7_divideSizes 312 = .ok (.iconst 1, 1) := by decide +kernel
theorem dX7_divideSizes_313 : decode cX7_divideSizes 313 = .ok (.iastore, 1) := by decide +kernel
theorem dX7_divideSizes_314 : decode cX7_divideSizes 314 = .ok (.aload_n 0, 1) := by decide +kernel
theorem dX7_divideSizes_315 : decode cX7_divideSizes 315 = .ok (.iload_n 3, 1) := by decide +kernel
theorem dX7_divideSizes_316 : decode cX7_divideSizes 316 = .ok (.invokevirtual 35, 3) := by decide +kernel
theorem dX7_divideSizes_319 : decode cX7_divideSizes 319 = .ok (.aload_n 0, 1) := by decide +kernel
theorem dX7_divideSizes_320 : decode cX7_divideSizes 320 = .ok (.getfield 11, 3) := by decide +kernel
theorem dX7_divideSizes_323 : decode cX7_divideSizes 323 = .ok (.iload 4, 2) := by decide +kernel
theorem dX7_divideSizes_325 : decode cX7_divideSizes 325 = .ok (.iload 8, 2) := by decide +kernel
theorem dX7_divideSizes_327 : decode cX7_divideSizes 327 = .ok (.iastore, 1) := by decide +kernel
theorem dX7_divideSizes_328 : decode cX7_divideSizes 328 = .ok (.aload_n 0, 1) := by decide +kernel
theorem dX7_divideSizes_329 : decode cX7_divideSizes 329 = .ok (.iload 4, 2) := by decide +kernel
theorem dX7_divideSizes_331 : decode cX7_divideSizes 331 = .ok (.invokevirtual 35, 3) := by decide +kernel
theorem dX7_divideSizes_334 : decode cX7_divideSizes 334 = .ok (.lconst 0, 1) := by decide +kernel
theorem dX7_divideSizes_335 : decode cX7_divideSizes 335 = .ok (.lstore 10, 2) := by decide +kernel
theorem dX7_divideSizes_337 : decode cX7_divideSizes 337 = .ok (.aload_n 0, 1) := by decide +kernel
theorem dX7_divideSizes_338 : decode cX7_divideSizes 338 = .ok (.getfield 11, 3) := by decide +kernel
theorem dX7_divideSizes_341 : decode cX7_divideSizes 341 = .ok (.iload 4, 2) := by decide +kernel
theorem dX7_divideSizes_343 : decode cX7_divideSizes 343 = .ok (.iaload, 1) := by decide +kernel
theorem dX7_divideSizes_344 : decode cX7_divideSizes 344 = .ok (.iconst 1, 1) := by decide +kernel
theorem dX7_divideSizes_345 : decode cX7_divideSizes 345 = .ok (.isub, 1) := by decide +kernel
theorem dX7_divideSizes_346 : decode cX7_divideSizes 346 = .ok (.istore 12, 2) := by decide +kernel
theorem dX7_divideSizes_348 : decode cX7_divideSizes 348 = .ok (.iload 12, 2) := by decide +kernel
theorem dX7_divideSizes_350 : decode cX7_divideSizes 350 = .ok (.ifCond .lt 60, 3) := by decide +kernel
theorem dX7_divideSizes_353 : decode cX7_divideSizes 353 = .ok (.lload 10, 2) := by decide +kernel
theorem dX7_divideSizes_355 : decode cX7_divideSizes 355 = .ok (.ldc2_w 14, 3) := by decide +kernel
theorem dX7_divideSizes_358 : decode cX7_divideSizes 358 = .ok (.lmul, 1) := by decide +kernel
theorem dX7_divideSizes_359 : decode cX7_divideSizes 359 = .ok (.aload_n 0, 1) := by decide +kernel
theorem dX7_divideSizes_360 : decode cX7_divideSizes 360 = .ok (.getfield 16, 3) := by decide +kernel
theorem dX7_divideSizes_363 : decode cX7_divideSizes 363 = .ok (.sipush 2500, 3) := by decide +kernel
theorem dX7_divideSizes_366 : decode cX7_divideSizes 366 = .ok (.iload 4, 2) := by decide +kernel
theorem dX7_divideSizes_368 : decode cX7_divideSizes 368 = .ok (.imul, 1) := by decide +kernel
theorem dX7_divideSizes_369 : decode cX7_divideSizes 369 = .ok (.iload 12, 2) := by decide +kernel
theorem dX7_divideSizes_371 : decode cX7_divideSizes 371 = .ok (.iadd, 1) := by decide +kernel
theorem dX7_divideSizes_372 : decode cX7_divideSizes 372 = .ok (.iaload, 1) := by decide +kernel
theorem dX7_divideSizes_373 : decode cX7_divideSizes 373 = .ok (.i2l, 1) := by decide +kernel
theorem dX7_divideSizes_374 : decode cX7_divideSizes 374 = .ok (.ladd, 1) := by decide +kernel
theorem dX7_divideSizes_375 : decode cX7_divideSizes 375 = .ok (.lstore 13, 2) := by decide +kernel
theorem dX7_divideSizes_377 : decode cX7_divideSizes 377 = .ok (.aload_n 0, 1) := by decide +kernel
theorem dX7_divideSizes_378 : decode cX7_divideSizes 378 = .ok (.getfield 16, 3) := by decide +kernel
theorem dX7_divideSizes_381 : decode cX7_divideSizes 381 = .ok (.sipush 2500, 3) := by decide +kernel
theorem dX7_divideSizes_384 : decode cX7_divideSizes 384 = .ok (.iload 4, 2) := by decide +kernel
theorem dX7_divideSizes_386 : decode cX7_divideSizes 386 = .ok (.imul, 1) := by decide +kernel
theorem dX7_divideSizes_387 : decode cX7_divideSizes 387 = .ok (.iload 12, 2) := by decide +kernel
theorem dX7_divideSizes_389 : decode cX7_divideSizes 389 = .ok (.iadd, 1) := by decide +kernel
theorem dX7_divideSizes_390 : decode cX7_divideSizes 390 = .ok (.lload 13, 2) := by decide +kernel
theorem dX7_divideSizes_392 : decode cX7_divideSizes 392 = .ok (.lload 6, 2) := by decide +kernel
theorem dX7_divideSizes_394 : decode cX7_divideSizes 394 = .ok (.ldiv, 1) := by decide +kernel
theorem dX7_divideSizes_395 : decode cX7_divideSizes 395 = .ok (.l2i, 1) := by decide +kernel
theorem dX7_divideSizes_396 : decode cX7_divideSizes 396 = .ok (.iastore, 1) := by decide +kernel
theorem dX7_divideSizes_397 : decode cX7_divideSizes 397 = .ok (.lload 13, 2) := by decide +kernel
theorem dX7_divideSizes_399 : decode cX7_divideSizes 399 = .ok (.lload 6, 2) := by decide +kernel
theorem dX7_divideSizes_401 : decode cX7_divideSizes 401 = .ok (.lrem, 1) := by decide +kernel
theorem dX7_divideSizes_402 : decode cX7_divideSizes 402 = .ok (.lstore 10, 2) := by decide +kernel
theorem dX7_divideSizes_404 : decode cX7_divideSizes 404 = .ok (.iinc 12 (-1), 3) := by decide +kernel
theorem dX7_divideSizes_407 : decode cX7_divideSizes 407 = .ok (.goto (-59), 3) := by decide +kernel
theorem dX7_divideSizes_410 : decode cX7_divideSizes 410 = .ok (.aload_n 0, 1) := by decide +kernel
theorem dX7_divideSizes_411 : decode cX7_divideSizes 411 = .ok (.getfield 7, 3) := by decide +kernel
theorem dX7_divideSizes_414 : decode cX7_divideSizes 414 = .ok (.iload 4, 2) := by decide +kernel
theorem dX7_divideSizes_416 : decode cX7_divideSizes 416 = .ok (.iconst 1, 1) := by decide +kernel
theorem dX7_divideSizes_417 : decode cX7_divideSizes 417 = .ok (.iastore, 1) := by decide +kernel
theorem dX7_divideSizes_418 : decode cX7_divideSizes 418 = .ok (.aload_n 0, 1) := by decide +kernel
theorem dX7_divideSizes_419 : decode cX7_divideSizes 419 = .ok (.iload 4, 2) := by decide +kernel
theorem dX7_divideSizes_421 : decode cX7_divideSizes 421 = .ok (.invokevirtual 35, 3) := by decide +kernel
theorem dX7_divideSizes_424 : decode cX7_divideSizes 424 = .ok (.aload_n 0, 1) := by decide +kernel
theorem dX7_divideSizes_425 : decode cX7_divideSizes 425 = .ok (.iload 5, 2) := by decide +kernel
theorem dX7_divideSizes_427 : decode cX7_divideSizes 427 = .ok (.putfield 1, 3) := by decide +kernel
theorem dX7_divideSizes_430 : decode cX7_divideSizes 430 = .ok (.return_, 1) := by decide +kernel
theorem dX7_scaled_0 : decode cX7_scaled 0 = .ok (.lconst 0, 1) := by decide +kernel
theorem dX7_scaled_1 : decode cX7_scaled 1 = .ok (.lstore 5, 2) := by decide +kernel
theorem dX7_scaled_3 : decode cX7_scaled 3 = .ok (.aload_n 0, 1) := by decide +kernel
theorem dX7_scaled_4 : decode cX7_scaled 4 = .ok (.getfield 11, 3) := by decide +kernel
theorem dX7_scaled_7 : decode cX7_scaled 7 = .ok (.iload_n 1, 1) := by decide +kernel
theorem dX7_scaled_8 : decode cX7_scaled 8 = .ok (.iaload, 1) := by decide +kernel
theorem dX7_scaled_9 : decode cX7_scaled 9 = .ok (.istore 7, 2) := by decide +kernel
theorem dX7_scaled_11 : decode cX7_scaled 11 = .ok (.iconst 0, 1) := by decide +kernel
theorem dX7_scaled_12 : decode cX7_scaled 12 = .ok (.istore 8, 2) := by decide +kernel
theorem dX7_scaled_14 : decode cX7_scaled 14 = .ok (.iload 8, 2) := by decide +kernel
theorem dX7_scaled_16 : decode cX7_scaled 16 = .ok (.iload 7, 2) := by decide +kernel
theorem dX7_scaled_18 : decode cX7_scaled 18 = .ok (.if_icmp .ge 59, 3) := by decide +kernel
theorem dX7_scaled_21 : decode cX7_scaled 21 = .ok (.aload_n 0, 1) := by decide +kernel
theorem dX7_scaled_22 : decode cX7_scaled 22 = .ok (.getfield 16, 3) := by decide +kernel
theorem dX7_scaled_25 : decode cX7_scaled 25 = .ok (.sipush 2500, 3) := by decide +kernel
theorem dX7_scaled_28 : decode cX7_scaled 28 = .ok (.iload_n 1, 1) := by decide +kernel
theorem dX7_scaled_29 : decode cX7_scaled 29 = .ok (.imul, 1) := by decide +kernel
theorem dX7_scaled_30 : decode cX7_scaled 30 = .ok (.iload 8, 2) := by decide +kernel
theorem dX7_scaled_32 : decode cX7_scaled 32 = .ok (.iadd, 1) := by decide +kernel
theorem dX7_scaled_33 : decode cX7_scaled 33 = .ok (.iaload, 1) := by decide +kernel
theorem dX7_scaled_34 : decode cX7_scaled 34 = .ok (.i2l, 1) := by decide +kernel
theorem dX7_scaled_35 : decode cX7_scaled 35 = .ok (.lload_n 2, 1) := by decide +kernel
theorem dX7_scaled_36 : decode cX7_scaled 36 = .ok (.lmul, 1) := by decide +kernel
theorem dX7_scaled_37 : decode cX7_scaled 37 = .ok (.lload 5, 2) := by decide +kernel
theorem dX7_scaled_39 : decode cX7_scaled 39 = .ok (.ladd, 1) := by decide +kernel
theorem dX7_scaled_40 : decode cX7_scaled 40 = .ok (.lstore 9, 2) := by decide +kernel
theorem dX7_scaled_42 : decode cX7_scaled 42 = .ok (.aload_n 0, 1) := by decide +kernel
theorem dX7_scaled_43 : decode cX7_scaled 43 = .ok (.getfield 16, 3) := by decide +kernel
theorem dX7_scaled_46 : decode cX7_scaled 46 = .ok (.sipush 2500, 3) := by decide +kernel
theorem dX7_scaled_49 : decode cX7_scaled 49 = .ok (.iload 4, 2) := by decide +kernel
theorem dX7_scaled_51 : decode cX7_scaled 51 = .ok (.imul, 1) := by decide +kernel
theorem dX7_scaled_52 : decode cX7_scaled 52 = .ok (.iload 8, 2) := by decide +kernel
theorem dX7_scaled_54 : decode cX7_scaled 54 = .ok (.iadd, 1) := by decide +kernel
theorem dX7_scaled_55 : decode cX7_scaled 55 = .ok (.lload 9, 2) := by decide +kernel
theorem dX7_scaled_57 : decode cX7_scaled 57 = .ok (.ldc2_w 14, 3) := by decide +kernel
theorem dX7_scaled_60 : decode cX7_scaled 60 = .ok (.lrem, 1) := by decide +kernel
theorem dX7_scaled_61 : decode cX7_scaled 61 = .ok (.l2i, 1) := by decide +kernel
theorem dX7_scaled_62 : decode cX7_scaled 62 = .ok (.iastore, 1) := by decide +kernel
theorem dX7_scaled_63 : decode cX7_scaled 63 = .ok (.lload 9, 2) := by decide +kernel
theorem dX7_scaled_65 : decode cX7_scaled 65 = .ok (.ldc2_w 14, 3) := by decide +kernel
theorem dX7_scaled_68 : decode cX7_scaled 68 = .ok (.ldiv, 1) := by decide +kernel
theorem dX7_scaled_69 : decode cX7_scaled 69 = .ok (.lstore 5, 2) := by decide +kernel
theorem dX7_scaled_71 : decode cX7_scaled 71 = .ok (.iinc 8 1, 3) := by decide +kernel
theorem dX7_scaled_74 : decode cX7_scaled 74 = .ok (.goto (-60), 3) := by decide +kernel
theorem dX7_scaled_77 : decode cX7_scaled 77 = .ok (.aload_n 0, 1) := by decide +kernel
theorem dX7_scaled_78 : decode cX7_scaled 78 = .ok (.getfield 16, 3) := by decide +kernel
theorem dX7_scaled_81 : decode cX7_scaled 81 = .ok (.sipush 2500, 3) := by decide +kernel
theorem dX7_scaled_84 : decode cX7_scaled 84 = .ok (.iload 4, 2) := by decide +kernel
theorem dX7_scaled_86 : decode cX7_scaled 86 = .ok (.imul, 1) := by decide +kernel
theorem dX7_scaled_87 : decode cX7_scaled 87 = .ok (.iload 7, 2) := by decide +kernel
theorem dX7_scaled_89 : decode cX7_scaled 89 = .ok (.iadd, 1) := by decide +kernel
theorem dX7_scaled_90 : decode cX7_scaled 90 = .ok (.lload 5, 2) := by decide +kernel
theorem dX7_scaled_92 : decode cX7_scaled 92 = .ok (.l2i, 1) := by decide +kernel
theorem dX7_scaled_93 : decode cX7_scaled 93 = .ok (.iastore, 1) := by decide +kernel
theorem dX7_scaled_94 : decode cX7_scaled 94 = .ok (.aload_n 0, 1) := by decide +kernel
theorem dX7_scaled_95 : decode cX7_scaled 95 = .ok (.getfield 11, 3) := by decide +kernel
theorem dX7_scaled_98 : decode cX7_scaled 98 = .ok (.iload 4, 2) := by decide +kernel
theorem dX7_scaled_100 : decode cX7_scaled 100 = .ok (.iload 7, 2) := by decide +kernel
theorem dX7_scaled_102 : decode cX7_scaled 102 = .ok (.iconst 1, 1) := by decide +kernel
theorem dX7_scaled_103 : decode cX7_scaled 103 = .ok (.iadd, 1) := by decide +kernel
theorem dX7_scaled_104 : decode cX7_scaled 104 = .ok (.iastore, 1) := by decide +kernel
theorem dX7_scaled_105 : decode cX7_scaled 105 = .ok (.aload_n 0, 1) := by decide +kernel
theorem dX7_scaled_106 : decode cX7_scaled 106 = .ok (.getfield 7, 3) := by decide +kernel
theorem dX7_scaled_109 : decode cX7_scaled 109 = .ok (.iload 4, 2) := by decide +kernel
theorem dX7_scaled_111 : decode cX7_scaled 111 = .ok (.iconst 1, 1) := by decide +kernel
theorem dX7_scaled_112 : decode cX7_scaled 112 = .ok (.iastore, 1) := by decide +kernel
theorem dX7_scaled_113 : decode cX7_scaled 113 = .ok (.return_, 1) := by decide +kernel
theorem dX7_digit_0 : decode cX7_digit 0 = .ok (.sipush 2500, 3) := by decide +kernel
theorem dX7_digit_3 : decode cX7_digit 3 = .ok (.iload_n 1, 1) := by decide +kernel
theorem dX7_digit_4 : decode cX7_digit 4 = .ok (.imul, 1) := by decide +kernel
theorem dX7_digit_5 : decode cX7_digit 5 = .ok (.iload_n 3, 1) := by decide +kernel
theorem dX7_digit_6 : decode cX7_digit 6 = .ok (.iadd, 1) := by decide +kernel
theorem dX7_digit_7 : decode cX7_digit 7 = .ok (.istore 5, 2) := by decide +kernel
theorem dX7_digit_9 : decode cX7_digit 9 = .ok (.aload_n 0, 1) := by decide +kernel
theorem dX7_digit_10 : decode cX7_digit 10 = .ok (.getfield 16, 3) := by decide +kernel
theorem dX7_digit_13 : decode cX7_digit 13 = .ok (.iload 5, 2) := by decide +kernel
theorem dX7_digit_15 : decode cX7_digit 15 = .ok (.iload 4, 2) := by decide +kernel
theorem dX7_digit_17 : decode cX7_digit 17 = .ok (.iadd, 1) := by decide +kernel
theorem dX7_digit_18 : decode cX7_digit 18 = .ok (.iaload, 1) := by decide +kernel
theorem dX7_digit_19 : decode cX7_digit 19 = .ok (.i2l, 1) := by decide +kernel
theorem dX7_digit_20 : decode cX7_digit 20 = .ok (.ldc2_w 14, 3) := by decide +kernel
theorem dX7_digit_23 : decode cX7_digit 23 = .ok (.lmul, 1) := by decide +kernel
theorem dX7_digit_24 : decode cX7_digit 24 = .ok (.aload_n 0, 1) := by decide +kernel
theorem dX7_digit_25 : decode cX7_digit 25 = .ok (.getfield 16, 3) := by decide +kernel
theorem dX7_digit_28 : decode cX7_digit 28 = .ok (.iload 5, 2) := by decide +kernel
theorem dX7_digit_30 : decode cX7_digit 30 = .ok (.iload 4, 2) := by decide +kernel
theorem dX7_digit_32 : decode cX7_digit 32 = .ok (.iadd, 1) := by decide +kernel
theorem dX7_digit_33 : decode cX7_digit 33 = .ok (.iconst 1, 1) := by decide +kernel
theorem dX7_digit_34 : decode cX7_digit 34 = .ok (.isub, 1) := by decide +kernel
theorem dX7_digit_35 : decode cX7_digit 35 = .ok (.iaload, 1) := by decide +kernel
theorem dX7_digit_36 : decode cX7_digit 36 = .ok (.i2l, 1) := by decide +kernel
theorem dX7_digit_37 : decode cX7_digit 37 = .ok (.ladd, 1) := by decide +kernel
theorem dX7_digit_38 : decode cX7_digit 38 = .ok (.lstore 6, 2) := by decide +kernel
theorem dX7_digit_40 : decode cX7_digit 40 = .ok (.aload_n 0, 1) := by decide +kernel
theorem dX7_digit_41 : decode cX7_digit 41 = .ok (.getfield 16, 3) := by decide +kernel
theorem dX7_digit_44 : decode cX7_digit 44 = .ok (.sipush 2500, 3) := by decide +kernel
theorem dX7_digit_47 : decode cX7_digit 47 = .ok (.iload_n 2, 1) := by decide +kernel
theorem dX7_digit_48 : decode cX7_digit 48 = .ok (.imul, 1) := by decide +kernel
theorem dX7_digit_49 : decode cX7_digit 49 = .ok (.iload 4, 2) := by decide +kernel
theorem dX7_digit_51 : decode cX7_digit 51 = .ok (.iadd, 1) := by decide +kernel
theorem dX7_digit_52 : decode cX7_digit 52 = .ok (.iconst 1, 1) := by decide +kernel
theorem dX7_digit_53 : decode cX7_digit 53 = .ok (.isub, 1) := by decide +kernel
theorem dX7_digit_54 : decode cX7_digit 54 = .ok (.iaload, 1) := by decide +kernel
theorem dX7_digit_55 : decode cX7_digit 55 = .ok (.i2l, 1) := by decide +kernel
theorem dX7_digit_56 : decode cX7_digit 56 = .ok (.lstore 8, 2) := by decide +kernel
theorem dX7_digit_58 : decode cX7_digit 58 = .ok (.aload_n 0, 1) := by decide +kernel
theorem dX7_digit_59 : decode cX7_digit 59 = .ok (.getfield 16, 3) := by decide +kernel
theorem dX7_digit_62 : decode cX7_digit 62 = .ok (.sipush 2500, 3) := by decide +kernel
theorem dX7_digit_65 : decode cX7_digit 65 = .ok (.iload_n 2, 1) := by decide +kernel
theorem dX7_digit_66 : decode cX7_digit 66 = .ok (.imul, 1) := by decide +kernel
theorem dX7_digit_67 : decode cX7_digit 67 = .ok (.iload 4, 2) := by decide +kernel
theorem dX7_digit_69 : decode cX7_digit 69 = .ok (.iadd, 1) := by decide +kernel
theorem dX7_digit_70 : decode cX7_digit 70 = .ok (.iconst 2, 1) := by decide +kernel
theorem dX7_digit_71 : decode cX7_digit 71 = .ok (.isub, 1) := by decide +kernel
theorem dX7_digit_72 : decode cX7_digit 72 = .ok (.iaload, 1) := by decide +kernel
theorem dX7_digit_73 : decode cX7_digit 73 = .ok (.i2l, 1) := by decide +kernel
theorem dX7_digit_74 : decode cX7_digit 74 = .ok (.lstore 10, 2) := by decide +kernel
theorem dX7_digit_76 : decode cX7_digit 76 = .ok (.lload 6, 2) := by decide +kernel
theorem dX7_digit_78 : decode cX7_digit 78 = .ok (.lload 8, 2) := by decide +kernel
theorem dX7_digit_80 : decode cX7_digit 80 = .ok (.ldiv, 1) := by decide +kernel
theorem dX7_digit_81 : decode cX7_digit 81 = .ok (.lstore 12, 2) := by decide +kernel
theorem dX7_digit_83 : decode cX7_digit 83 = .ok (.lload 6, 2) := by decide +kernel
theorem dX7_digit_85 : decode cX7_digit 85 = .ok (.lload 8, 2) := by decide +kernel
theorem dX7_digit_87 : decode cX7_digit 87 = .ok (.lrem, 1) := by decide +kernel
theorem dX7_digit_88 : decode cX7_digit 88 = .ok (.lstore 14, 2) := by decide +kernel
theorem dX7_digit_90 : decode cX7_digit 90 = .ok (.lload 12, 2) := by decide +kernel
theorem dX7_digit_92 : decode cX7_digit 92 = .ok (.ldc2_w 14, 3) := by decide +kernel
theorem dX7_digit_95 : decode cX7_digit 95 = .ok (.lcmp, 1) := by decide +kernel
theorem dX7_digit_96 : decode cX7_digit 96 = .ok (.ifCond .ge 41, 3) := by decide +kernel
theorem dX7_digit_99 : decode cX7_digit 99 = .ok (.lload 14, 2) := by decide +kernel
theorem dX7_digit_101 : decode cX7_digit 101 = .ok (.ldc2_w 14, 3) := by decide +kernel
theorem dX7_digit_104 : decode cX7_digit 104 = .ok (.lcmp, 1) := by decide +kernel
theorem dX7_digit_105 : decode cX7_digit 105 = .ok (.ifCond .ge 57, 3) := by decide +kernel
theorem dX7_digit_108 : decode cX7_digit 108 = .ok (.lload 12, 2) := by decide +kernel
theorem dX7_digit_110 : decode cX7_digit 110 = .ok (.lload 10, 2) := by decide +kernel
theorem dX7_digit_112 : decode cX7_digit 112 = .ok (.lmul, 1) := by decide +kernel
theorem dX7_digit_113 : decode cX7_digit 113 = .ok (.lload 14, 2) := by decide +kernel
theorem dX7_digit_115 : decode cX7_digit 115 = .ok (.ldc2_w 14, 3) := by decide +kernel
theorem dX7_digit_118 : decode cX7_digit 118 = .ok (.lmul, 1) := by decide +kernel
theorem dX7_digit_119 : decode cX7_digit 119 = .ok (.aload_n 0, 1) := by decide +kernel
theorem dX7_digit_120 : decode cX7_digit 120 = .ok (.getfield 16, 3) := by decide +kernel
theorem dX7_digit_123 : decode cX7_digit 123 = .ok (.iload 5, 2) := by decide +kernel
theorem dX7_digit_125 : decode cX7_digit 125 = .ok (.iload 4, 2) := by decide +kernel
theorem dX7_digit_127 : decode cX7_digit 127 = .ok (.iadd, 1) := by decide +kernel
theorem dX7_digit_128 : decode cX7_digit 128 = .ok (.iconst 2, 1) := by decide +kernel
theorem dX7_digit_129 : decode cX7_digit 129 = .ok (.isub, 1) := by decide +kernel
theorem dX7_digit_130 : decode cX7_digit 130 = .ok (.iaload, 1) := by decide +kernel
theorem dX7_digit_131 : decode cX7_digit 131 = .ok (.i2l, 1) := by decide +kernel
theorem dX7_digit_132 : decode cX7_digit 132 = .ok (.ladd, 1) := by decide +kernel
theorem dX7_digit_133 : decode cX7_digit 133 = .ok (.lcmp, 1) := by decide +kernel
theorem dX7_digit_134 : decode cX7_digit 134 = .ok (.ifCond .le 28, 3) := by decide +kernel
theorem dX7_digit_137 : decode cX7_digit 137 = .ok (.lload 12, 2) := by decide +kernel
theorem dX7_digit_139 : decode cX7_digit 139 = .ok (.lconst 1, 1) := by decide +kernel
theorem dX7_digit_140 : decode cX7_digit 140 = .ok (.lsub, 1) := by decide +kernel
theorem dX7_digit_141 : decode cX7_digit 141 = .ok (.lstore 12, 2) := by decide +kernel
theorem dX7_digit_143 : decode cX7_digit 143 = .ok (.lload 14, 2) := by decide +kernel
theorem dX7_digit_145 : decode cX7_digit 145 = .ok (.lload 8, 2) := by decide +kernel
theorem dX7_digit_147 : decode cX7_digit 147 = .ok (.ladd, 1) := by decide +kernel
theorem dX7_digit_148 : decode cX7_digit 148 = .ok (.lstore 14, 2) := by decide +kernel
theorem dX7_digit_150 : decode cX7_digit 150 = .ok (.lload 14, 2) := by decide +kernel
theorem dX7_digit_152 : decode cX7_digit 152 = .ok (.ldc2_w 14, 3) := by decide +kernel
theorem dX7_digit_155 : decode cX7_digit 155 = .ok (.lcmp, 1) := by decide +kernel
theorem dX7_digit_156 : decode cX7_digit 156 = .ok (.ifCond .lt (-66), 3) := by decide +kernel
theorem dX7_digit_159 : decode cX7_digit 159 = .ok (.goto 3, 3) := by decide +kernel
theorem dX7_digit_162 : decode cX7_digit 162 = .ok (.lconst 0, 1) := by decide +kernel
theorem dX7_digit_163 : decode cX7_digit 163 = .ok (.lstore 16, 2) := by decide +kernel
theorem dX7_digit_165 : decode cX7_digit 165 = .ok (.iconst 0, 1) := by decide +kernel
theorem dX7_digit_166 : decode cX7_digit 166 = .ok (.istore 18, 2) := by decide +kernel
theorem dX7_digit_168 : decode cX7_digit 168 = .ok (.iload 18, 2) := by decide +kernel
theorem dX7_digit_170 : decode cX7_digit 170 = .ok (.iload 4, 2) := by decide +kernel
theorem dX7_digit_172 : decode cX7_digit 172 = .ok (.if_icmp .ge 94, 3) := by decide +kernel
theorem dX7_digit_175 : decode cX7_digit 175 = .ok (.aload_n 0, 1) := by decide +kernel
theorem dX7_digit_176 : decode cX7_digit 176 = .ok (.getfield 16, 3) := by decide +kernel
theorem dX7_digit_179 : decode cX7_digit 179 = .ok (.iload 5, 2) := by decide +kernel
theorem dX7_digit_181 : decode cX7_digit 181 = .ok (.iload 18, 2) := by decide +kernel
theorem dX7_digit_183 : decode cX7_digit 183 = .ok (.iadd, 1) := by decide +kernel
theorem dX7_digit_184 : decode cX7_digit 184 = .ok (.iaload, 1) := by decide +kernel
theorem dX7_digit_185 : decode cX7_digit 185 = .ok (.i2l, 1) := by decide +kernel
theorem dX7_digit_186 : decode cX7_digit 186 = .ok (.lload 12, 2) := by decide +kernel
theorem dX7_digit_188 : decode cX7_digit 188 = .ok (.aload_n 0, 1) := by decide +kernel
theorem dX7_digit_189 : decode cX7_digit 189 = .ok (.getfield 16, 3) := by decide +kernel
theorem dX7_digit_192 : decode cX7_digit 192 = .ok (.sipush 2500, 3) := by decide +kernel
theorem dX7_digit_195 : decode cX7_digit 195 = .ok (.iload_n 2, 1) := by decide +kernel
theorem dX7_digit_196 : decode cX7_digit 196 = .ok (.imul, 1) := by decide +kernel
theorem dX7_digit_197 : decode cX7_digit 197 = .ok (.iload 18, 2) := by decide +kernel
theorem dX7_digit_199 : decode cX7_digit 199 = .ok (.iadd, 1) := by decide +kernel
theorem dX7_digit_200 : decode cX7_digit 200 = .ok (.iaload, 1) := by decide +kernel
theorem dX7_digit_201 : decode cX7_digit 201 = .ok (.i2l, 1) := by decide +kernel
theorem dX7_digit_202 : decode cX7_digit 202 = .ok (.lmul, 1) := by decide +kernel
theorem dX7_digit_203 : decode cX7_digit 203 = .ok (.lsub, 1) := by decide +kernel
theorem dX7_digit_204 : decode cX7_digit 204 = .ok (.lload 16, 2) := by decide +kernel
theorem dX7_digit_206 : decode cX7_digit 206 = .ok (.lsub, 1) := by decide +kernel
theorem dX7_digit_207 : decode cX7_digit 207 = .ok (.lstore 19, 2) := by decide +kernel
theorem dX7_digit_209 : decode cX7_digit 209 = .ok (.lload 19, 2) := by decide +kernel
theorem dX7_digit_211 : decode cX7_digit 211 = .ok (.ldc2_w 14, 3) := by decide +kernel
theorem dX7_digit_214 : decode cX7_digit 214 = .ok (.lrem, 1) := by decide +kernel
theorem dX7_digit_215 : decode cX7_digit 215 = .ok (.lstore 21, 2) := by decide +kernel
theorem dX7_digit_217 : decode cX7_digit 217 = .ok (.lload 19, 2) := by decide +kernel
theorem dX7_digit_219 : decode cX7_digit 219 = .ok (.ldc2_w 14, 3) := by decide +kernel
theorem dX7_digit_222 : decode cX7_digit 222 = .ok (.ldiv, 1) := by decide +kernel
theorem dX7_digit_223 : decode cX7_digit 223 = .ok (.lneg, 1) := by decide +kernel
theorem dX7_digit_224 : decode cX7_digit 224 = .ok (.lstore 16, 2) := by decide +kernel
theorem dX7_digit_226 : decode cX7_digit 226 = .ok (.lload 21, 2) := by decide +kernel
theorem dX7_digit_228 : decode cX7_digit 228 = .ok (.lconst 0, 1) := by decide +kernel
theorem dX7_digit_229 : decode cX7_digit 229 = .ok (.lcmp, 1) := by decide +kernel
theorem dX7_digit_230 : decode cX7_digit 230 = .ok (.ifCond .ge 17, 3) := by decide +kernel
theorem dX7_digit_233 : decode cX7_digit 233 = .ok (.lload 21, 2) := by decide +kernel
theorem dX7_digit_235 : decode cX7_digit 235 = .ok (.ldc2_w 14, 3) := by decide +kernel
theorem dX7_digit_238 : decode cX7_digit 238 = .ok (.ladd, 1) := by decide +kernel
theorem dX7_digit_239 : decode cX7_digit 239 = .ok (.lstore 21, 2) := by decide +kernel
theorem dX7_digit_241 : decode cX7_digit 241 = .ok (.lload 16, 2) := by decide +kernel
theorem dX7_digit_243 : decode cX7_digit 243 = .ok (.lconst 1, 1) := by decide +kernel
theorem dX7_digit_244 : decode cX7_digit 244 = .ok (.ladd, 1) := by decide +kernel
theorem dX7_digit_245 : decode cX7_digit 245 = .ok (.lstore 16, 2) := by decide +kernel
theorem dX7_digit_247 : decode cX7_digit 247 = .ok (.aload_n 0, 1) := by decide +kernel
theorem dX7_digit_248 : decode cX7_digit 248 = .ok (.getfield 16, 3) := by decide +kernel
theorem dX7_digit_251 : decode cX7_digit 251 = .ok (.iload 5, 2) := by decide +kernel
theorem dX7_digit_253 : decode cX7_digit 253 = .ok (.iload 18, 2) := by decide +kernel
theorem dX7_digit_255 : decode cX7_digit 255 = .ok (.iadd, 1) := by decide +kernel
theorem dX7_digit_256 : decode cX7_digit 256 = .ok (.lload 21, 2) := by decide +kernel
theorem dX7_digit_258 : decode cX7_digit 258 = .ok (.l2i, 1) := by decide +kernel
theorem dX7_digit_259 : decode cX7_digit 259 = .ok (.iastore, 1) := by decide +kernel
theorem dX7_digit_260 : decode cX7_digit 260 = .ok (.iinc 18 1, 3) := by decide +kernel
theorem dX7_digit_263 : decode cX7_digit 263 = .ok (.goto (-95), 3) := by decide +kernel
theorem dX7_digit_266 : decode cX7_digit 266 = .ok (.aload_n 0, 1) := by decide +kernel
theorem dX7_digit_267 : decode cX7_digit 267 = .ok (.getfield 16, 3) := by decide +kernel
theorem dX7_digit_270 : decode cX7_digit 270 = .ok (.iload 5, 2) := by decide +kernel
theorem dX7_digit_272 : decode cX7_digit 272 = .ok (.iload 4, 2) := by decide +kernel
theorem dX7_digit_274 : decode cX7_digit 274 = .ok (.iadd, 1) := by decide +kernel
theorem dX7_digit_275 : decode cX7_digit 275 = .ok (.iaload, 1) := by decide +kernel
theorem dX7_digit_276 : decode cX7_digit 276 = .ok (.i2l, 1) := by decide +kernel
theorem dX7_digit_277 : decode cX7_digit 277 = .ok (.lload 16, 2) := by decide +kernel
theorem dX7_digit_279 : decode cX7_digit 279 = .ok (.lsub, 1) := by decide +kernel
theorem dX7_digit_280 : decode cX7_digit 280 = .ok (.lstore 18, 2) := by decide +kernel
theorem dX7_digit_282 : decode cX7_digit 282 = .ok (.lload 18, 2) := by decide +kernel
theorem dX7_digit_284 : decode cX7_digit 284 = .ok (.lconst 0, 1) := by decide +kernel
theorem dX7_digit_285 : decode cX7_digit 285 = .ok (.lcmp, 1) := by decide +kernel
theorem dX7_digit_286 : decode cX7_digit 286 = .ok (.ifCond .ge 106, 3) := by decide +kernel
theorem dX7_digit_289 : decode cX7_digit 289 = .ok (.lload 12, 2) := by decide +kernel
theorem dX7_digit_291 : decode cX7_digit 291 = .ok (.lconst 1, 1) := by decide +kernel
theorem dX7_digit_292 : decode cX7_digit 292 = .ok (.lsub, 1) := by decide +kernel
theorem dX7_digit_293 : decode cX7_digit 293 = .ok (.lstore 12, 2) := by decide +kernel
theorem dX7_digit_295 : decode cX7_digit 295 = .ok (.iconst 0, 1) := by decide +kernel
theorem dX7_digit_296 : decode cX7_digit 296 = .ok (.istore 20, 2) := by decide +kernel
theorem dX7_digit_298 : decode cX7_digit 298 = .ok (.iconst 0, 1) := by decide +kernel
theorem dX7_digit_299 : decode cX7_digit 299 = .ok (.istore 21, 2) := by decide +kernel
theorem dX7_digit_301 : decode cX7_digit 301 = .ok (.iload 21, 2) := by decide +kernel
theorem dX7_digit_303 : decode cX7_digit 303 = .ok (.iload 4, 2) := by decide +kernel
theorem dX7_digit_305 : decode cX7_digit 305 = .ok (.if_icmp .ge 79, 3) := by decide +kernel
theorem dX7_digit_308 : decode cX7_digit 308 = .ok (.aload_n 0, 1) := by decide +kernel
theorem dX7_digit_309 : decode cX7_digit 309 = .ok (.getfield 16, 3) := by decide +kernel
theorem dX7_digit_312 : decode cX7_digit 312 = .ok (.iload 5, 2) := by decide +kernel
theorem dX7_digit_314 : decode cX7_digit 314 = .ok (.iload 21, 2) := by decide +kernel
theorem dX7_digit_316 : decode cX7_digit 316 = .ok (.iadd, 1) := by decide +kernel
theorem dX7_digit_317 : decode cX7_digit 317 = .ok (.iaload, 1) := by decide +kernel
theorem dX7_digit_318 : decode cX7_digit 318 = .ok (.aload_n 0, 1) := by decide +kernel
theorem dX7_digit_319 : decode cX7_digit 319 = .ok (.getfield 16, 3) := by decide +kernel
theorem dX7_digit_322 : decode cX7_digit 322 = .ok (.sipush 2500, 3) := by decide +kernel
theorem dX7_digit_325 : decode cX7_digit 325 = .ok (.iload_n 2, 1) := by decide +kernel
theorem dX7_digit_326 : decode cX7_digit 326 = .ok (.imul, 1) := by decide +kernel
theorem dX7_digit_327 : decode cX7_digit 327 = .ok (.iload 21, 2) := by decide +kernel
theorem dX7_digit_329 : decode cX7_digit 329 = .ok (.iadd, 1) := by decide +kernel
theorem dX7_digit_330 : decode cX7_digit 330 = .ok (.iaload, 1) := by decide +kernel
theorem dX7_digit_331 : decode cX7_digit 331 = .ok (.iadd, 1) := by decide +kernel
theorem dX7_digit_332 : decode cX7_digit 332 = .ok (.iload 20, 2) := by decide +kernel
theorem dX7_digit_334 : decode cX7_digit 334 = .ok (.iadd, 1) := by decide +kernel
theorem dX7_digit_335 : decode cX7_digit 335 = .ok (.istore 22, 2) := by decide +kernel
theorem dX7_digit_337 : decode cX7_digit 337 = .ok (.iload 22, 2) := by decide +kernel
theorem dX7_digit_339 : decode cX7_digit 339 = .ok (.ldc 23, 2) := by decide +kernel
theorem dX7_digit_341 : decode cX7_digit 341 = .ok (.if_icmp .lt 7, 3) := by decide +kernel
theorem dX7_digit_344 : decode cX7_digit 344 = .ok (.iconst 1, 1) := by decide +kernel
theorem dX7_digit_345 : decode cX7_digit 345 = .ok (.goto 4, 3) := by decide +kernel
theorem dX7_digit_348 : decode cX7_digit 348 = .ok (.iconst 0, 1) := by decide +kernel
theorem dX7_digit_349 : decode cX7_digit 349 = .ok (.istore 20, 2) := by decide +kernel
theorem dX7_digit_351 : decode cX7_digit 351 = .ok (.aload_n 0, 1) := by decide +kernel
theorem dX7_digit_352 : decode cX7_digit 352 = .ok (.getfield 16, 3) := by decide +kernel
theorem dX7_digit_355 : decode cX7_digit 355 = .ok (.iload 5, 2) := by decide +kernel
theorem dX7_digit_357 : decode cX7_digit 357 = .ok (.iload 21, 2) := by decide +kernel
theorem dX7_digit_359 : decode cX7_digit 359 = .ok (.iadd, 1) := by decide +kernel
theorem dX7_digit_360 : decode cX7_digit 360 = .ok (.iload 22, 2) := by decide +kernel
theorem dX7_digit_362 : decode cX7_digit 362 = .ok (.ldc 23, 2) := by decide +kernel
theorem dX7_digit_364 : decode cX7_digit 364 = .ok (.if_icmp .lt 11, 3) := by decide +kernel
theorem dX7_digit_367 : decode cX7_digit 367 = .ok (.iload 22, 2) := by decide +kernel
theorem dX7_digit_369 : decode cX7_digit 369 = .ok (.ldc 23, 2) := by decide +kernel
theorem dX7_digit_371 : decode cX7_digit 371 = .ok (.isub, 1) := by decide +kernel
theorem dX7_digit_372 : decode cX7_digit 372 = .ok (.goto 5, 3) := by decide +kernel
theorem dX7_digit_375 : decode cX7_digit 375 = .ok (.iload 22, 2) := by decide +kernel
theorem dX7_digit_377 : decode cX7_digit 377 = .ok (.iastore, 1) := by decide +kernel
theorem dX7_digit_378 : decode cX7_digit 378 = .ok (.iinc 21 1, 3) := by decide +kernel
theorem dX7_digit_381 : decode cX7_digit 381 = .ok (.goto (-80), 3) := by decide +kernel
theorem dX7_digit_384 : decode cX7_digit 384 = .ok (.lload 18, 2) := by decide +kernel
theorem dX7_digit_386 : decode cX7_digit 386 = .ok (.iload 20, 2) := by decide +kernel
theorem dX7_digit_388 : decode cX7_digit 388 = .ok (.i2l, 1) := by decide +kernel
theorem dX7_digit_389 : decode cX7_digit 389 = .ok (.ladd, 1) := by decide +kernel
theorem dX7_digit_390 : decode cX7_digit 390 = .ok (.lstore 18, 2) := by decide +kernel
theorem dX7_digit_392 : decode cX7_digit 392 = .ok (.aload_n 0, 1) := by decide +kernel
theorem dX7_digit_393 : decode cX7_digit 393 = .ok (.getfield 16, 3) := by decide +kernel
theorem dX7_digit_396 : decode cX7_digit 396 = .ok (.iload 5, 2) := by decide +kernel
theorem dX7_digit_398 : decode cX7_digit 398 = .ok (.iload 4, 2) := by decide +kernel
theorem dX7_digit_400 : decode cX7_digit 400 = .ok (.iadd, 1) := by decide +kernel
theorem dX7_digit_401 : decode cX7_digit 401 = .ok (.lload 18, 2) := by decide +kernel
theorem dX7_digit_403 : decode cX7_digit 403 = .ok (.l2i, 1) := by decide +kernel
theorem dX7_digit_404 : decode cX7_digit 404 = .ok (.iastore, 1) := by decide +kernel
theorem dX7_digit_405 : decode cX7_digit 405 = .ok (.lload 12, 2) := by decide +kernel
theorem dX7_digit_407 : decode cX7_digit 407 = .ok (.l2i, 1) := by decide +kernel
theorem dX7_digit_408 : decode cX7_digit 408 = .ok (.ireturn, 1) := by decide +kernel
theorem dX7_common_0 : decode cX7_common 0 = .ok (.aload_n 0, 1) := by decide +kernel
theorem dX7_common_1 : decode cX7_common 1 = .ok (.iconst 4, 1) := by decide +kernel
theorem dX7_common_2 : decode cX7_common 2 = .ok (.invokevirtual 43, 3) := by decide +kernel
theorem dX7_common_5 : decode cX7_common 5 = .ok (.istore 4, 2) := by decide +kernel
theorem dX7_common_7 : decode cX7_common 7 = .ok (.iload 4, 2) := by decide +kernel
theorem dX7_common_9 : decode cX7_common 9 = .ok (.iconst 1, 1) := by decide +kernel
theorem dX7_common_10 : decode cX7_common 10 = .ok (.iadd, 1) := by decide +kernel
theorem dX7_common_11 : decode cX7_common 11 = .ok (.istore 5, 2) := by decide +kernel
theorem dX7_common_13 : decode cX7_common 13 = .ok (.iload 4, 2) := by decide +kernel
theorem dX7_common_15 : decode cX7_common 15 = .ok (.iconst 2, 1) := by decide +kernel
theorem dX7_common_16 : decode cX7_common 16 = .ok (.iadd, 1) := by decide +kernel
theorem dX7_common_17 : decode cX7_common 17 = .ok (.istore 6, 2) := by decide +kernel
theorem dX7_common_19 : decode cX7_common 19 = .ok (.iload 4, 2) := by decide +kernel
theorem dX7_common_21 : decode cX7_common 21 = .ok (.iconst 3, 1) := by decide +kernel
theorem dX7_common_22 : decode cX7_common 22 = .ok (.iadd, 1) := by decide +kernel
theorem dX7_common_23 : decode cX7_common 23 = .ok (.istore 7, 2) := by decide +kernel
theorem dX7_common_25 : decode cX7_common 25 = .ok (.aload_n 0, 1) := by decide +kernel
theorem dX7_common_26 : decode cX7_common 26 = .ok (.iload_n 1, 1) := by decide +kernel
theorem dX7_common_27 : decode cX7_common 27 = .ok (.iload 4, 2) := by decide +kernel
theorem dX7_common_29 : decode cX7_common 29 = .ok (.invokevirtual 24, 3) := by decide +kernel
theorem dX7_common_32 : decode cX7_common 32 = .ok (.aload_n 0, 1) := by decide +kernel
theorem dX7_common_33 : decode cX7_common 33 = .ok (.iload_n 2, 1) := by decide +kernel
theorem dX7_common_34 : decode cX7_common 34 = .ok (.iload 5, 2) := by decide +kernel
theorem dX7_common_36 : decode cX7_common 36 = .ok (.invokevirtual 24, 3) := by decide +kernel
theorem dX7_common_39 : decode cX7_common 39 = .ok (.aload_n 0, 1) := by decide +kernel
theorem dX7_common_40 : decode cX7_common 40 = .ok (.getfield 11, 3) := by decide +kernel
theorem dX7_common_43 : decode cX7_common 43 = .ok (.iload 5, 2) := by decide +kernel
theorem dX7_common_45 : decode cX7_common 45 = .ok (.iaload, 1) := by decide +kernel
theorem dX7_common_46 : decode cX7_common 46 = .ok (.ifCond .le 34, 3) := by decide +kernel
theorem dX7_common_49 : decode cX7_common 49 = .ok (.aload_n 0, 1) := by decide +kernel
theorem dX7_common_50 : decode cX7_common 50 = .ok (.iload 4, 2) := by decide +kernel
theorem dX7_common_52 : decode cX7_common 52 = .ok (.iload 5, 2) := by decide +kernel
theorem dX7_common_54 : decode cX7_common 54 = .ok (.iload 6, 2) := by decide +kernel
theorem dX7_common_56 : decode cX7_common 56 = .ok (.iload 7, 2) := by decide +kernel
theorem dX7_common_58 : decode cX7_common 58 = .ok (.invokevirtual 62, 3) := by decide +kernel
theorem dX7_common_61 : decode cX7_common 61 = .ok (.iload 4, 2) := by decide +kernel
theorem dX7_common_63 : decode cX7_common 63 = .ok (.istore 8, 2) := by decide +kernel
theorem dX7_common_65 : decode cX7_common 65 = .ok (.iload 5, 2) := by decide +kernel
theorem dX7_common_67 : decode cX7_common 67 = .ok (.istore 4, 2) := by decide +kernel
theorem dX7_common_69 : decode cX7_common 69 = .ok (.iload 7, 2) := by decide +kernel
theorem dX7_common_71 : decode cX7_common 71 = .ok (.istore 5, 2) := by decide +kernel
theorem dX7_common_73 : decode cX7_common 73 = .ok (.iload 8, 2) := by decide +kernel
theorem dX7_common_75 : decode cX7_common 75 = .ok (.istore 7, 2) := by decide +kernel
theorem dX7_common_77 : decode cX7_common 77 = .ok (.goto (-38), 3) := by decide +kernel
theorem dX7_common_80 : decode cX7_common 80 = .ok (.aload_n 0, 1) := by decide +kernel
theorem dX7_common_81 : decode cX7_common 81 = .ok (.iload 4, 2) := by decide +kernel
theorem dX7_common_83 : decode cX7_common 83 = .ok (.iload_n 3, 1) := by decide +kernel
theorem dX7_common_84 : decode cX7_common 84 = .ok (.invokevirtual 24, 3) := by decide +kernel
theorem dX7_common_87 : decode cX7_common 87 = .ok (.aload_n 0, 1) := by decide +kernel
theorem dX7_common_88 : decode cX7_common 88 = .ok (.getfield 7, 3) := by decide +kernel
theorem dX7_common_91 : decode cX7_common 91 = .ok (.iload_n 3, 1) := by decide +kernel
theorem dX7_common_92 : decode cX7_common 92 = .ok (.aload_n 0, 1) := by decide +kernel
theorem dX7_common_93 : decode cX7_common 93 = .ok (.getfield 11, 3) := by decide +kernel
theorem dX7_common_96 : decode cX7_common 96 = .ok (.iload_n 3, 1) := by decide +kernel
theorem dX7_common_97 : decode cX7_common 97 = .ok (.iaload, 1) := by decide +kernel
theorem dX7_common_98 : decode cX7_common 98 = .ok (.ifCond .ne 7, 3) := by decide +kernel
theorem dX7_common_101 : decode cX7_common 101 = .ok (.iconst 0, 1) := by decide +kernel
theorem dX7_common_102 : decode cX7_common 102 = .ok (.goto 4, 3) := by decide +kernel
theorem dX7_common_105 : decode cX7_common 105 = .ok (.iconst 1, 1) := by decide +kernel
theorem dX7_common_106 : decode cX7_common 106 = .ok (.iastore, 1) := by decide +kernel
theorem dX7_common_107 : decode cX7_common 107 = .ok (.aload_n 0, 1) := by decide +kernel
theorem dX7_common_108 : decode cX7_common 108 = .ok (.iload 4, 2) := by decide +kernel
theorem dX7_common_110 : decode cX7_common 110 = .ok (.iload 5, 2) := by decide +kernel
theorem dX7_common_112 : decode cX7_common 112 = .ok (.invokestatic 65, 3) := by decide +kernel
theorem dX7_common_115 : decode cX7_common 115 = .ok (.iload 6, 2) := by decide +kernel
theorem dX7_common_117 : decode cX7_common 117 = .ok (.iload 7, 2) := by decide +kernel
theorem dX7_common_119 : decode cX7_common 119 = .ok (.invokestatic 65, 3) := by decide +kernel
theorem dX7_common_122 : decode cX7_common 122 = .ok (.invokestatic 65, 3) := by decide +kernel
theorem dX7_common_125 : decode cX7_common 125 = .ok (.putfield 1, 3) := by decide +kernel
theorem dX7_common_128 : decode cX7_common 128 = .ok (.return_, 1) := by decide +kernel
theorem dX7_least_0 : decode cX7_least 0 = .ok (.iload_n 0, 1) := by decide +kernel
theorem dX7_least_1 : decode cX7_least 1 = .ok (.iload_n 1, 1) := by decide +kernel
theorem dX7_least_2 : decode cX7_least 2 = .ok (.if_icmp .ge 7, 3) := by decide +kernel
theorem dX7_least_5 : decode cX7_least 5 = .ok (.iload_n 0, 1) := by decide +kernel
theorem dX7_least_6 : decode cX7_least 6 = .ok (.goto 4, 3) := by decide +kernel
theorem dX7_least_9 : decode cX7_least 9 = .ok (.iload_n 1, 1) := by decide +kernel
theorem dX7_least_10 : decode cX7_least 10 = .ok (.ireturn, 1) := by decide +kernel
theorem dX7_figures_0 : decode cX7_figures 0 = .ok (.aload_n 0, 1) := by decide +kernel
theorem dX7_figures_1 : decode cX7_figures 1 = .ok (.getfield 11, 3) := by decide +kernel
theorem dX7_figures_4 : decode cX7_figures 4 = .ok (.iload_n 1, 1) := by decide +kernel
theorem dX7_figures_5 : decode cX7_figures 5 = .ok (.iaload, 1) := by decide +kernel
theorem dX7_figures_6 : decode cX7_figures 6 = .ok (.ifCond .ne 5, 3) := by decide +kernel
theorem dX7_figures_9 : decode cX7_figures 9 = .ok (.iconst 1, 1) := by decide +kernel
theorem dX7_figures_10 : decode cX7_figures 10 = .ok (.ireturn, 1) := by decide +kernel
theorem dX7_figures_11 : decode cX7_figures 11 = .ok (.bipush 9, 2) := by decide +kernel
theorem dX7_figures_13 : decode cX7_figures 13 = .ok (.aload_n 0, 1) := by decide +kernel
theorem dX7_figures_14 : decode cX7_figures 14 = .ok (.getfield 11, 3) := by decide +kernel
theorem dX7_figures_17 : decode cX7_figures 17 = .ok (.iload_n 1, 1) := by decide +kernel
theorem dX7_figures_18 : decode cX7_figures 18 = .ok (.iaload, 1) := by decide +kernel
theorem dX7_figures_19 : decode cX7_figures 19 = .ok (.iconst 1, 1) := by decide +kernel
theorem dX7_figures_20 : decode cX7_figures 20 = .ok (.isub, 1) := by decide +kernel
theorem dX7_figures_21 : decode cX7_figures 21 = .ok (.imul, 1) := by decide +kernel
theorem dX7_figures_22 : decode cX7_figures 22 = .ok (.istore_n 2, 1) := by decide +kernel
theorem dX7_figures_23 : decode cX7_figures 23 = .ok (.aload_n 0, 1) := by decide +kernel
theorem dX7_figures_24 : decode cX7_figures 24 = .ok (.getfield 16, 3) := by decide +kernel
theorem dX7_figures_27 : decode cX7_figures 27 = .ok (.sipush 2500, 3) := by decide +kernel
theorem dX7_figures_30 : decode cX7_figures 30 = .ok (.iload_n 1, 1) := by decide +kernel
theorem dX7_figures_31 : decode cX7_figures 31 = .ok (.imul, 1) := by decide +kernel
theorem dX7_figures_32 : decode cX7_figures 32 = .ok (.aload_n 0, 1) := by decide +kernel
theorem dX7_figures_33 : decode cX7_figures 33 = .ok (.getfield 11, 3) := by decide +kernel
theorem dX7_figures_36 : decode cX7_figures 36 = .ok (.iload_n 1, 1) := by decide +kernel
theorem dX7_figures_37 : decode cX7_figures 37 = .ok (.iaload, 1) := by decide +kernel
theorem dX7_figures_38 : decode cX7_figures 38 = .ok (.iadd, 1) := by decide +kernel
theorem dX7_figures_39 : decode cX7_figures 39 = .ok (.iconst 1, 1) := by decide +kernel
theorem dX7_figures_40 : decode cX7_figures 40 = .ok (.isub, 1) := by decide +kernel
theorem dX7_figures_41 : decode cX7_figures 41 = .ok (.iaload, 1) := by decide +kernel
theorem dX7_figures_42 : decode cX7_figures 42 = .ok (.istore_n 3, 1) := by decide +kernel
theorem dX7_figures_43 : decode cX7_figures 43 = .ok (.iload_n 3, 1) := by decide +kernel
theorem dX7_figures_44 : decode cX7_figures 44 = .ok (.ifCond .le 14, 3) := by decide +kernel
theorem dX7_figures_47 : decode cX7_figures 47 = .ok (.iinc 2 1, 3) := by decide +kernel
theorem dX7_figures_50 : decode cX7_figures 50 = .ok (.iload_n 3, 1) := by decide +kernel
theorem dX7_figures_51 : decode cX7_figures 51 = .ok (.bipush 10, 2) := by decide +kernel
theorem dX7_figures_53 : decode cX7_figures 53 = .ok (.idiv, 1) := by decide +kernel
theorem dX7_figures_54 : decode cX7_figures 54 = .ok (.istore_n 3, 1) := by decide +kernel
theorem dX7_figures_55 : decode cX7_figures 55 = .ok (.goto (-12), 3) := by decide +kernel
theorem dX7_figures_58 : decode cX7_figures 58 = .ok (.iload_n 2, 1) := by decide +kernel
theorem dX7_figures_59 : decode cX7_figures 59 = .ok (.ireturn, 1) := by decide +kernel
theorem dX7_figureOf_0 : decode cX7_figureOf 0 = .ok (.aload_n 0, 1) := by decide +kernel
theorem dX7_figureOf_1 : decode cX7_figureOf 1 = .ok (.getfield 11, 3) := by decide +kernel
theorem dX7_figureOf_4 : decode cX7_figureOf 4 = .ok (.iload_n 1, 1) := by decide +kernel
theorem dX7_figureOf_5 : decode cX7_figureOf 5 = .ok (.iaload, 1) := by decide +kernel
theorem dX7_figureOf_6 : decode cX7_figureOf 6 = .ok (.ifCond .ne 5, 3) := by decide +kernel
theorem dX7_figureOf_9 : decode cX7_figureOf 9 = .ok (.iconst 0, 1) := by decide +kernel
theorem dX7_figureOf_10 : decode cX7_figureOf 10 = .ok (.ireturn, 1) := by decide +kernel
theorem dX7_figureOf_11 : decode cX7_figureOf 11 = .ok (.aload_n 0, 1) := by decide +kernel
theorem dX7_figureOf_12 : decode cX7_figureOf 12 = .ok (.iload_n 1, 1) := by decide +kernel
theorem dX7_figureOf_13 : decode cX7_figureOf 13 = .ok (.invokevirtual 73, 3) := by decide +kernel
theorem dX7_figureOf_16 : decode cX7_figureOf 16 = .ok (.iconst 1, 1) := by decide +kernel
theorem dX7_figureOf_17 : decode cX7_figureOf 17 = .ok (.isub, 1) := by decide +kernel
theorem dX7_figureOf_18 : decode cX7_figureOf 18 = .ok (.iload_n 2, 1) := by decide +kernel
theorem dX7_figureOf_19 : decode cX7_figureOf 19 = .ok (.isub, 1) := by decide +kernel
theorem dX7_figureOf_20 : decode cX7_figureOf 20 = .ok (.istore_n 3, 1) := by decide +kernel
theorem dX7_figureOf_21 : decode cX7_figureOf 21 = .ok (.aload_n 0, 1) := by decide +kernel
theorem dX7_figureOf_22 : decode cX7_figureOf 22 = .ok (.getfield 16, 3) := by decide +kernel
theorem dX7_figureOf_25 : decode cX7_figureOf 25 = .ok (.sipush 2500, 3) := by decide +kernel
theorem dX7_figureOf_28 : decode cX7_figureOf 28 = .ok (.iload_n 1, 1) := by decide +kernel
theorem dX7_figureOf_29 : decode cX7_figureOf 29 = .ok (.imul, 1) := by decide +kernel
theorem dX7_figureOf_30 : decode cX7_figureOf 30 = .ok (.iload_n 3, 1) := by decide +kernel
theorem dX7_figureOf_31 : decode cX7_figureOf 31 = .ok (.bipush 9, 2) := by decide +kernel
theorem dX7_figureOf_33 : decode cX7_figureOf 33 = .ok (.idiv, 1) := by decide +kernel
theorem dX7_figureOf_34 : decode cX7_figureOf 34 = .ok (.iadd, 1) := by decide +kernel
theorem dX7_figureOf_35 : decode cX7_figureOf 35 = .ok (.iaload, 1) := by decide +kernel
theorem dX7_figureOf_36 : decode cX7_figureOf 36 = .ok (.istore 4, 2) := by decide +kernel
theorem dX7_figureOf_38 : decode cX7_figureOf 38 = .ok (.iconst 0, 1) := by decide +kernel
theorem dX7_figureOf_39 : decode cX7_figureOf 39 = .ok (.istore 5, 2) := by decide +kernel
theorem dX7_figureOf_41 : decode cX7_figureOf 41 = .ok (.iload 5, 2) := by decide +kernel
theorem dX7_figureOf_43 : decode cX7_figureOf 43 = .ok (.iload_n 3, 1) := by decide +kernel
theorem dX7_figureOf_44 : decode cX7_figureOf 44 = .ok (.bipush 9, 2) := by decide +kernel
theorem dX7_figureOf_46 : decode cX7_figureOf 46 = .ok (.irem, 1) := by decide +kernel
theorem dX7_figureOf_47 : decode cX7_figureOf 47 = .ok (.if_icmp .ge 16, 3) := by decide +kernel
theorem dX7_figureOf_50 : decode cX7_figureOf 50 = .ok (.iload 4, 2) := by decide +kernel
theorem dX7_figureOf_52 : decode cX7_figureOf 52 = .ok (.bipush 10, 2) := by decide +kernel
theorem dX7_figureOf_54 : decode cX7_figureOf 54 = .ok (.idiv, 1) := by decide +kernel
theorem dX7_figureOf_55 : decode cX7_figureOf 55 = .ok (.istore 4, 2) := by decide +kernel
theorem dX7_figureOf_57 : decode cX7_figureOf 57 = .ok (.iinc 5 1, 3) := by decide +kernel
theorem dX7_figureOf_60 : decode cX7_figureOf 60 = .ok (.goto (-19), 3) := by decide +kernel
theorem dX7_figureOf_63 : decode cX7_figureOf 63 = .ok (.iload 4, 2) := by decide +kernel
theorem dX7_figureOf_65 : decode cX7_figureOf 65 = .ok (.bipush 10, 2) := by decide +kernel
theorem dX7_figureOf_67 : decode cX7_figureOf 67 = .ok (.irem, 1) := by decide +kernel
theorem dX7_figureOf_68 : decode cX7_figureOf 68 = .ok (.ireturn, 1) := by decide +kernel
theorem dX7_reduce_0 : decode cX7_reduce 0 = .ok (.aload_n 0, 1) := by decide +kernel
theorem dX7_reduce_1 : decode cX7_reduce 1 = .ok (.iconst 3, 1) := by decide +kernel
theorem dX7_reduce_2 : decode cX7_reduce 2 = .ok (.invokevirtual 43, 3) := by decide +kernel
theorem dX7_reduce_5 : decode cX7_reduce 5 = .ok (.istore_n 2, 1) := by decide +kernel
theorem dX7_reduce_6 : decode cX7_reduce 6 = .ok (.aload_n 0, 1) := by decide +kernel
theorem dX7_reduce_7 : decode cX7_reduce 7 = .ok (.getfield 7, 3) := by decide +kernel
theorem dX7_reduce_10 : decode cX7_reduce 10 = .ok (.iload_n 1, 1) := by decide +kernel
theorem dX7_reduce_11 : decode cX7_reduce 11 = .ok (.iconst 1, 1) := by decide +kernel
theorem dX7_reduce_12 : decode cX7_reduce 12 = .ok (.iadd, 1) := by decide +kernel
theorem dX7_reduce_13 : decode cX7_reduce 13 = .ok (.iaload, 1) := by decide +kernel
theorem dX7_reduce_14 : decode cX7_reduce 14 = .ok (.ifCond .ge 25, 3) := by decide +kernel
theorem dX7_reduce_17 : decode cX7_reduce 17 = .ok (.aload_n 0, 1) := by decide +kernel
theorem dX7_reduce_18 : decode cX7_reduce 18 = .ok (.getfield 7, 3) := by decide +kernel
theorem dX7_reduce_21 : decode cX7_reduce 21 = .ok (.iload_n 1, 1) := by decide +kernel
theorem dX7_reduce_22 : decode cX7_reduce 22 = .ok (.iconst 1, 1) := by decide +kernel
theorem dX7_reduce_23 : decode cX7_reduce 23 = .ok (.iadd, 1) := by decide +kernel
theorem dX7_reduce_24 : decode cX7_reduce 24 = .ok (.iconst 1, 1) := by decide +kernel
theorem dX7_reduce_25 : decode cX7_reduce 25 = .ok (.iastore, 1) := by decide +kernel
theorem dX7_reduce_26 : decode cX7_reduce 26 = .ok (.aload_n 0, 1) := by decide +kernel
theorem dX7_reduce_27 : decode cX7_reduce 27 = .ok (.getfield 7, 3) := by decide +kernel
theorem dX7_reduce_30 : decode cX7_reduce 30 = .ok (.iload_n 1, 1) := by decide +kernel
theorem dX7_reduce_31 : decode cX7_reduce 31 = .ok (.aload_n 0, 1) := by decide +kernel
theorem dX7_reduce_32 : decode cX7_reduce 32 = .ok (.getfield 7, 3) := by decide +kernel
theorem dX7_reduce_35 : decode cX7_reduce 35 = .ok (.iload_n 1, 1) := by decide +kernel
theorem dX7_reduce_36 : decode cX7_reduce 36 = .ok (.iaload, 1) := by decide +kernel
theorem dX7_reduce_37 : decode cX7_reduce 37 = .ok (.ineg, 1) := by decide +kernel
theorem dX7_reduce_38 : decode cX7_reduce 38 = .ok (.iastore, 1) := by decide +kernel
theorem dX7_reduce_39 : decode cX7_reduce 39 = .ok (.aload_n 0, 1) := by decide +kernel
theorem dX7_reduce_40 : decode cX7_reduce 40 = .ok (.getfield 11, 3) := by decide +kernel
theorem dX7_reduce_43 : decode cX7_reduce 43 = .ok (.iload_n 1, 1) := by decide +kernel
theorem dX7_reduce_44 : decode cX7_reduce 44 = .ok (.iaload, 1) := by decide +kernel
theorem dX7_reduce_45 : decode cX7_reduce 45 = .ok (.ifCond .ne 17, 3) := by decide +kernel
theorem dX7_reduce_48 : decode cX7_reduce 48 = .ok (.aload_n 0, 1) := by decide +kernel
theorem dX7_reduce_49 : decode cX7_reduce 49 = .ok (.iload_n 1, 1) := by decide +kernel
theorem dX7_reduce_50 : decode cX7_reduce 50 = .ok (.iconst 1, 1) := by decide +kernel
theorem dX7_reduce_51 : decode cX7_reduce 51 = .ok (.iadd, 1) := by decide +kernel
theorem dX7_reduce_52 : decode cX7_reduce 52 = .ok (.lconst 1, 1) := by decide +kernel
theorem dX7_reduce_53 : decode cX7_reduce 53 = .ok (.invokevirtual 47, 3) := by decide +kernel
theorem dX7_reduce_56 : decode cX7_reduce 56 = .ok (.aload_n 0, 1) := by decide +kernel
theorem dX7_reduce_57 : decode cX7_reduce 57 = .ok (.iload_n 2, 1) := by decide +kernel
theorem dX7_reduce_58 : decode cX7_reduce 58 = .ok (.putfield 1, 3) := by decide +kernel
theorem dX7_reduce_61 : decode cX7_reduce 61 = .ok (.return_, 1) := by decide +kernel
theorem dX7_reduce_62 : decode cX7_reduce 62 = .ok (.aload_n 0, 1) := by decide +kernel
theorem dX7_reduce_63 : decode cX7_reduce 63 = .ok (.iload_n 1, 1) := by decide +kernel
theorem dX7_reduce_64 : decode cX7_reduce 64 = .ok (.iload_n 1, 1) := by decide +kernel
theorem dX7_reduce_65 : decode cX7_reduce 65 = .ok (.iconst 1, 1) := by decide +kernel
theorem dX7_reduce_66 : decode cX7_reduce 66 = .ok (.iadd, 1) := by decide +kernel
theorem dX7_reduce_67 : decode cX7_reduce 67 = .ok (.iload_n 2, 1) := by decide +kernel
theorem dX7_reduce_68 : decode cX7_reduce 68 = .ok (.invokevirtual 76, 3) := by decide +kernel
theorem dX7_reduce_71 : decode cX7_reduce 71 = .ok (.aload_n 0, 1) := by decide +kernel
theorem dX7_reduce_72 : decode cX7_reduce 72 = .ok (.getfield 11, 3) := by decide +kernel
theorem dX7_reduce_75 : decode cX7_reduce 75 = .ok (.iload_n 2, 1) := by decide +kernel
theorem dX7_reduce_76 : decode cX7_reduce 76 = .ok (.iaload, 1) := by decide +kernel
theorem dX7_reduce_77 : decode cX7_reduce 77 = .ok (.iconst 1, 1) := by decide +kernel
theorem dX7_reduce_78 : decode cX7_reduce 78 = .ok (.if_icmp .ne 17, 3) := by decide +kernel
theorem dX7_reduce_81 : decode cX7_reduce 81 = .ok (.aload_n 0, 1) := by decide +kernel
theorem dX7_reduce_82 : decode cX7_reduce 82 = .ok (.getfield 16, 3) := by decide +kernel
theorem dX7_reduce_85 : decode cX7_reduce 85 = .ok (.sipush 2500, 3) := by decide +kernel
theorem dX7_reduce_88 : decode cX7_reduce 88 = .ok (.iload_n 2, 1) := by decide +kernel
theorem dX7_reduce_89 : decode cX7_reduce 89 = .ok (.imul, 1) := by decide +kernel
theorem dX7_reduce_90 : decode cX7_reduce 90 = .ok (.iaload, 1) := by decide +kernel
theorem dX7_reduce_91 : decode cX7_reduce 91 = .ok (.iconst 1, 1) := by decide +kernel
theorem dX7_reduce_92 : decode cX7_reduce 92 = .ok (.if_icmp .eq 61, 3) := by decide +kernel
theorem dX7_reduce_95 : decode cX7_reduce 95 = .ok (.aload_n 0, 1) := by decide +kernel
theorem dX7_reduce_96 : decode cX7_reduce 96 = .ok (.getfield 7, 3) := by decide +kernel
theorem dX7_reduce_99 : decode cX7_reduce 99 = .ok (.iload_n 1, 1) := by decide +kernel
theorem dX7_reduce_100 : decode cX7_reduce 100 = .ok (.iaload, 1) := by decide +kernel
theorem dX7_reduce_101 : decode cX7_reduce 101 = .ok (.istore_n 3, 1) := by decide +kernel
theorem dX7_reduce_102 : decode cX7_reduce 102 = .ok (.aload_n 0, 1) := by decide +kernel
theorem dX7_reduce_103 : decode cX7_reduce 103 = .ok (.iload_n 1, 1) := by decide +kernel
theorem dX7_reduce_104 : decode cX7_reduce 104 = .ok (.iload_n 2, 1) := by decide +kernel
theorem dX7_reduce_105 : decode cX7_reduce 105 = .ok (.iload_n 2, 1) := by decide +kernel
theorem dX7_reduce_106 : decode cX7_reduce 106 = .ok (.iconst 1, 1) := by decide +kernel
theorem dX7_reduce_107 : decode cX7_reduce 107 = .ok (.iadd, 1) := by decide +kernel
theorem dX7_reduce_108 : decode cX7_reduce 108 = .ok (.iload_n 2, 1) := by decide +kernel
theorem dX7_reduce_109 : decode cX7_reduce 109 = .ok (.iconst 2, 1) := by decide +kernel
theorem dX7_reduce_110 : decode cX7_reduce 110 = .ok (.iadd, 1) := by decide +kernel
theorem dX7_reduce_111 : decode cX7_reduce 111 = .ok (.invokevirtual 62, 3) := by decide +kernel
theorem dX7_reduce_114 : decode cX7_reduce 114 = .ok (.aload_n 0, 1) := by decide +kernel
theorem dX7_reduce_115 : decode cX7_reduce 115 = .ok (.iload_n 2, 1) := by decide +kernel
theorem dX7_reduce_116 : decode cX7_reduce 116 = .ok (.iconst 1, 1) := by decide +kernel
theorem dX7_reduce_117 : decode cX7_reduce 117 = .ok (.iadd, 1) := by decide +kernel
theorem dX7_reduce_118 : decode cX7_reduce 118 = .ok (.iload_n 1, 1) := by decide +kernel
theorem dX7_reduce_119 : decode cX7_reduce 119 = .ok (.invokevirtual 24, 3) := by decide +kernel
theorem dX7_reduce_122 : decode cX7_reduce 122 = .ok (.aload_n 0, 1) := by decide +kernel
theorem dX7_reduce_123 : decode cX7_reduce 123 = .ok (.getfield 7, 3) := by decide +kernel
theorem dX7_reduce_126 : decode cX7_reduce 126 = .ok (.iload_n 1, 1) := by decide +kernel
theorem dX7_reduce_127 : decode cX7_reduce 127 = .ok (.iload_n 3, 1) := by decide +kernel
theorem dX7_reduce_128 : decode cX7_reduce 128 = .ok (.iastore, 1) := by decide +kernel
theorem dX7_reduce_129 : decode cX7_reduce 129 = .ok (.aload_n 0, 1) := by decide +kernel
theorem dX7_reduce_130 : decode cX7_reduce 130 = .ok (.iload_n 1, 1) := by decide +kernel
theorem dX7_reduce_131 : decode cX7_reduce 131 = .ok (.iconst 1, 1) := by decide +kernel
theorem dX7_reduce_132 : decode cX7_reduce 132 = .ok (.iadd, 1) := by decide +kernel
theorem dX7_reduce_133 : decode cX7_reduce 133 = .ok (.iload_n 2, 1) := by decide +kernel
theorem dX7_reduce_134 : decode cX7_reduce 134 = .ok (.iload_n 2, 1) := by decide +kernel
theorem dX7_reduce_135 : decode cX7_reduce 135 = .ok (.iconst 1, 1) := by decide +kernel
theorem dX7_reduce_136 : decode cX7_reduce 136 = .ok (.iadd, 1) := by decide +kernel
theorem dX7_reduce_137 : decode cX7_reduce 137 = .ok (.iload_n 2, 1) := by decide +kernel
theorem dX7_reduce_138 : decode cX7_reduce 138 = .ok (.iconst 2, 1) := by decide +kernel
theorem dX7_reduce_139 : decode cX7_reduce 139 = .ok (.iadd, 1) := by decide +kernel
theorem dX7_reduce_140 : decode cX7_reduce 140 = .ok (.invokevirtual 62, 3) := by decide +kernel
theorem dX7_reduce_143 : decode cX7_reduce 143 = .ok (.aload_n 0, 1) := by decide +kernel
theorem dX7_reduce_144 : decode cX7_reduce 144 = .ok (.iload_n 2, 1) := by decide +kernel
theorem dX7_reduce_145 : decode cX7_reduce 145 = .ok (.iconst 1, 1) := by decide +kernel
theorem dX7_reduce_146 : decode cX7_reduce 146 = .ok (.iadd, 1) := by decide +kernel
theorem dX7_reduce_147 : decode cX7_reduce 147 = .ok (.iload_n 1, 1) := by decide +kernel
theorem dX7_reduce_148 : decode cX7_reduce 148 = .ok (.iconst 1, 1) := by decide +kernel
theorem dX7_reduce_149 : decode cX7_reduce 149 = .ok (.iadd, 1) := by decide +kernel
theorem dX7_reduce_150 : decode cX7_reduce 150 = .ok (.invokevirtual 24, 3) := by decide +kernel
theorem dX7_reduce_153 : decode cX7_reduce 153 = .ok (.aload_n 0, 1) := by decide +kernel
theorem dX7_reduce_154 : decode cX7_reduce 154 = .ok (.getfield 7, 3) := by decide +kernel
theorem dX7_reduce_157 : decode cX7_reduce 157 = .ok (.iload_n 1, 1) := by decide +kernel
theorem dX7_reduce_158 : decode cX7_reduce 158 = .ok (.iconst 1, 1) := by decide +kernel
theorem dX7_reduce_159 : decode cX7_reduce 159 = .ok (.iadd, 1) := by decide +kernel
theorem dX7_reduce_160 : decode cX7_reduce 160 = .ok (.iconst 1, 1) := by decide +kernel
theorem dX7_reduce_161 : decode cX7_reduce 161 = .ok (.iastore, 1) := by decide +kernel
theorem dX7_reduce_162 : decode cX7_reduce 162 = .ok (.aload_n 0, 1) := by decide +kernel
theorem dX7_reduce_163 : decode cX7_reduce 163 = .ok (.iload_n 2, 1) := by decide +kernel
theorem dX7_reduce_164 : decode cX7_reduce 164 = .ok (.putfield 1, 3) := by decide +kernel
theorem dX7_reduce_167 : decode cX7_reduce 167 = .ok (.return_, 1) := by decide +kernel
theorem dX7_fSet_0 : decode cX7_fSet 0 = .ok (.aload_n 0, 1) := by decide +kernel
theorem dX7_fSet_1 : decode cX7_fSet 1 = .ok (.iload_n 1, 1) := by decide +kernel
theorem dX7_fSet_2 : decode cX7_fSet 2 = .ok (.lload_n 2, 1) := by decide +kernel
theorem dX7_fSet_3 : decode cX7_fSet 3 = .ok (.invokevirtual 47, 3) := by decide +kernel
theorem dX7_fSet_6 : decode cX7_fSet 6 = .ok (.aload_n 0, 1) := by decide +kernel
theorem dX7_fSet_7 : decode cX7_fSet 7 = .ok (.iload_n 1, 1) := by decide +kernel
theorem dX7_fSet_8 : decode cX7_fSet 8 = .ok (.iconst 1, 1) := by decide +kernel
theorem dX7_fSet_9 : decode cX7_fSet 9 = .ok (.iadd, 1) := by decide +kernel
theorem dX7_fSet_10 : decode cX7_fSet 10 = .ok (.lload 4, 2) := by decide +kernel
theorem dX7_fSet_12 : decode cX7_fSet 12 = .ok (.invokevirtual 47, 3) := by decide +kernel
theorem dX7_fSet_15 : decode cX7_fSet 15 = .ok (.aload_n 0, 1) := by decide +kernel
theorem dX7_fSet_16 : decode cX7_fSet 16 = .ok (.iload_n 1, 1) := by decide +kernel
theorem dX7_fSet_17 : decode cX7_fSet 17 = .ok (.invokevirtual 79, 3) := by decide +kernel
theorem dX7_fSet_20 : decode cX7_fSet 20 = .ok (.return_, 1) := by decide +kernel
theorem dX7_init_0 : decode cX7_init 0 = .ok (.aload_n 0, 1) := by decide +kernel
theorem dX7_init_1 : decode cX7_init 1 = .ok (.invokespecial 95, 3) := by decide +kernel
theorem dX7_init_4 : decode cX7_init 4 = .ok (.aload_n 0, 1) := by decide +kernel
theorem dX7_init_5 : decode cX7_init 5 = .ok (.ldc 101, 2) := by decide +kernel
theorem dX7_init_7 : decode cX7_init 7 = .ok (.newarray .int, 2) := by decide +kernel
theorem dX7_init_9 : decode cX7_init 9 = .ok (.putfield 16, 3) := by decide +kernel
theorem dX7_init_12 : decode cX7_init 12 = .ok (.aload_n 0, 1) := by decide +kernel
theorem dX7_init_13 : decode cX7_init 13 = .ok (.sipush 500, 3) := by decide +kernel
theorem dX7_init_16 : decode cX7_init 16 = .ok (.newarray .int, 2) := by decide +kernel
theorem dX7_init_18 : decode cX7_init 18 = .ok (.putfield 11, 3) := by decide +kernel
theorem dX7_init_21 : decode cX7_init 21 = .ok (.aload_n 0, 1) := by decide +kernel
theorem dX7_init_22 : decode cX7_init 22 = .ok (.sipush 500, 3) := by decide +kernel
theorem dX7_init_25 : decode cX7_init 25 = .ok (.newarray .int, 2) := by decide +kernel
theorem dX7_init_27 : decode cX7_init 27 = .ok (.putfield 7, 3) := by decide +kernel
theorem dX7_init_30 : decode cX7_init 30 = .ok (.aload_n 0, 1) := by decide +kernel
theorem dX7_init_31 : decode cX7_init 31 = .ok (.sipush 16384, 3) := by decide +kernel
theorem dX7_init_34 : decode cX7_init 34 = .ok (.newarray .int, 2) := by decide +kernel
theorem dX7_init_36 : decode cX7_init 36 = .ok (.putfield 102, 3) := by decide +kernel
theorem dX7_init_39 : decode cX7_init 39 = .ok (.aload_n 0, 1) := by decide +kernel
theorem dX7_init_40 : decode cX7_init 40 = .ok (.sipush 2048, 3) := by decide +kernel
theorem dX7_init_43 : decode cX7_init 43 = .ok (.newarray .int, 2) := by decide +kernel
theorem dX7_init_45 : decode cX7_init 45 = .ok (.putfield 105, 3) := by decide +kernel
theorem dX7_init_48 : decode cX7_init 48 = .ok (.aload_n 0, 1) := by decide +kernel
theorem dX7_init_49 : decode cX7_init 49 = .ok (.sipush 2048, 3) := by decide +kernel
theorem dX7_init_52 : decode cX7_init 52 = .ok (.newarray .int, 2) := by decide +kernel
theorem dX7_init_54 : decode cX7_init 54 = .ok (.putfield 108, 3) := by decide +kernel
theorem dX7_init_57 : decode cX7_init 57 = .ok (.aload_n 0, 1) := by decide +kernel
theorem dX7_init_58 : decode cX7_init 58 = .ok (.sipush 5000, 3) := by decide +kernel
theorem dX7_init_61 : decode cX7_init 61 = .ok (.newarray .int, 2) := by decide +kernel
theorem dX7_init_63 : decode cX7_init 63 = .ok (.putfield 111, 3) := by decide +kernel
theorem dX7_init_66 : decode cX7_init 66 = .ok (.aload_n 0, 1) := by decide +kernel
theorem dX7_init_67 : decode cX7_init 67 = .ok (.iconst 2, 1) := by decide +kernel
theorem dX7_init_68 : decode cX7_init 68 = .ok (.newarray .int, 2) := by decide +kernel
theorem dX7_init_70 : decode cX7_init 70 = .ok (.putfield 114, 3) := by decide +kernel
theorem dX7_init_73 : decode cX7_init 73 = .ok (.aload_n 0, 1) := by decide +kernel
theorem dX7_init_74 : decode cX7_init 74 = .ok (.iconst 2, 1) := by decide +kernel
theorem dX7_init_75 : decode cX7_init 75 = .ok (.newarray .int, 2) := by decide +kernel
theorem dX7_init_77 : decode cX7_init 77 = .ok (.putfield 117, 3) := by decide +kernel
theorem dX7_init_80 : decode cX7_init 80 = .ok (.aload_n 0, 1) := by decide +kernel
theorem dX7_init_81 : decode cX7_init 81 = .ok (.sipush 4000, 3) := by decide +kernel
theorem dX7_init_84 : decode cX7_init 84 = .ok (.newarray .int, 2) := by decide +kernel
theorem dX7_init_86 : decode cX7_init 86 = .ok (.putfield 120, 3) := by decide +kernel
theorem dX7_init_89 : decode cX7_init 89 = .ok (.aload_n 0, 1) := by decide +kernel
theorem dX7_init_90 : decode cX7_init 90 = .ok (.invokevirtual 123, 3) := by decide +kernel
theorem dX7_init_93 : decode cX7_init 93 = .ok (.istore_n 1, 1) := by decide +kernel
theorem dX7_init_94 : decode cX7_init 94 = .ok (.return_, 1) := by decide +kernel
theorem dX7_thrown_0 : decode cX7_thrown 0 = .ok (.aload_n 0, 1) := by decide +kernel
theorem dX7_thrown_1 : decode cX7_thrown 1 = .ok (.getfield 127, 3) := by decide +kernel
theorem dX7_thrown_4 : decode cX7_thrown 4 = .ok (.ireturn, 1) := by decide +kernel
theorem dX7_keepPart_0 : decode cX7_keepPart 0 = .ok (.iconst 0, 1) := by decide +kernel
theorem dX7_keepPart_1 : decode cX7_keepPart 1 = .ok (.istore_n 3, 1) := by decide +kernel
theorem dX7_keepPart_2 : decode cX7_keepPart 2 = .ok (.iload_n 3, 1) := by decide +kernel
theorem dX7_keepPart_3 : decode cX7_keepPart 3 = .ok (.iconst 2, 1) := by decide +kernel
theorem dX7_keepPart_4 : decode cX7_keepPart 4 = .ok (.if_icmp .ge 96, 3) := by decide +kernel
theorem dX7_keepPart_7 : decode cX7_keepPart 7 = .ok (.iconst 2, 1) := by decide +kernel
theorem dX7_keepPart_8 : decode cX7_keepPart 8 = .ok (.iload_n 2, 1) := by decide +kernel
theorem dX7_keepPart_9 : decode cX7_keepPart 9 = .ok (.imul, 1) := by decide +kernel
theorem dX7_keepPart_10 : decode cX7_keepPart 10 = .ok (.iload_n 3, 1) := by decide +kernel
theorem dX7_keepPart_11 : decode cX7_keepPart 11 = .ok (.iadd, 1) := by decide +kernel
theorem dX7_keepPart_12 : decode cX7_keepPart 12 = .ok (.istore 4, 2) := by decide +kernel
theorem dX7_keepPart_14 : decode cX7_keepPart 14 = .ok (.aload_n 0, 1) := by decide +kernel
theorem dX7_keepPart_15 : decode cX7_keepPart 15 = .ok (.getfield 105, 3) := by decide +kernel
theorem dX7_keepPart_18 : decode cX7_keepPart 18 = .ok (.iload 4, 2) := by decide +kernel
theorem dX7_keepPart_20 : decode cX7_keepPart 20 = .ok (.aload_n 0, 1) := by decide +kernel
theorem dX7_keepPart_21 : decode cX7_keepPart 21 = .ok (.getfield 11, 3) := by decide +kernel
theorem dX7_keepPart_24 : decode cX7_keepPart 24 = .ok (.iload_n 1, 1) := by decide +kernel
theorem dX7_keepPart_25 : decode cX7_keepPart 25 = .ok (.iload_n 3, 1) := by decide +kernel
theorem dX7_keepPart_26 : decode cX7_keepPart 26 = .ok (.iadd, 1) := by decide +kernel
theorem dX7_keepPart_27 : decode cX7_keepPart 27 = .ok (.iaload, 1) := by decide +kernel
theorem dX7_keepPart_28 : decode cX7_keepPart 28 = .ok (.iastore, 1) := by decide +kernel
theorem dX7_keepPart_29 : decode cX7_keepPart 29 = .ok (.aload_n 0, 1) := by decide +kernel
theorem dX7_keepPart_30 : decode cX7_keepPart 30 = .ok (.getfield 108, 3) := by decide +kernel
theorem dX7_keepPart_33 : decode cX7_keepPart 33 = .ok (.iload 4, 2) := by decide +kernel
theorem dX7_keepPart_35 : decode cX7_keepPart 35 = .ok (.aload_n 0, 1) := by decide +kernel
theorem dX7_keepPart_36 : decode cX7_keepPart 36 = .ok (.getfield 7, 3) := by decide +kernel
theorem dX7_keepPart_39 : decode cX7_keepPart 39 = .ok (.iload_n 1, 1) := by decide +kernel
theorem dX7_keepPart_40 : decode cX7_keepPart 40 = .ok (.iload_n 3, 1) := by decide +kernel
theorem dX7_keepPart_41 : decode cX7_keepPart 41 = .ok (.iadd, 1) := by decide +kernel
theorem dX7_keepPart_42 : decode cX7_keepPart 42 = .ok (.iaload, 1) := by decide +kernel
theorem dX7_keepPart_43 : decode cX7_keepPart 43 = .ok (.iastore, 1) := by decide +kernel
theorem dX7_keepPart_44 : decode cX7_keepPart 44 = .ok (.iconst 0, 1) := by decide +kernel
theorem dX7_keepPart_45 : decode cX7_keepPart 45 = .ok (.istore 5, 2) := by decide +kernel
theorem dX7_keepPart_47 : decode cX7_keepPart 47 = .ok (.iload 5, 2) := by decide +kernel
