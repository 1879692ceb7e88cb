theorem dX3_dividedByLimb_89 : decode cX3_dividedByLimb 89 = .ok (.lload 12, 2) := by decide +kernel
theorem dX3_dividedByLimb_91 : decode cX3_dividedByLimb 91 = .ok (.lload 5, 2) := by decide +kernel
theorem dX3_dividedByLimb_93 : decode cX3_dividedByLimb 93 = .ok (.lmul, 1) := by decide +kernel
theorem dX3_dividedByLimb_94 : decode cX3_dividedByLimb 94 = .ok (.lsub, 1) := by decide +kernel
theorem dX3_dividedByLimb_95 : decode cX3_dividedByLimb 95 = .ok (.lstore 7, 2) := by decide +kernel
theorem dX3_dividedByLimb_97 : decode cX3_dividedByLimb 97 = .ok (.iinc 9 (-1), 3) := by decide +kernel
theorem dX3_dividedByLimb_100 : decode cX3_dividedByLimb 100 = .ok (.goto (-57), 3) := by decide +kernel
theorem dX3_dividedByLimb_103 : decode cX3_dividedByLimb 103 = .ok (.aload_n 0, 1) := by decide +kernel
theorem dX3_dividedByLimb_104 : decode cX3_dividedByLimb 104 = .ok (.iload 4, 2) := by decide +kernel
theorem dX3_dividedByLimb_106 : decode cX3_dividedByLimb 106 = .ok (.iload_n 3, 1) := by decide +kernel
theorem dX3_dividedByLimb_107 : decode cX3_dividedByLimb 107 = .ok (.aload_n 0, 1) := by decide +kernel
theorem dX3_dividedByLimb_108 : decode cX3_dividedByLimb 108 = .ok (.getfield 11, 3) := by decide +kernel
theorem dX3_dividedByLimb_111 : decode cX3_dividedByLimb 111 = .ok (.iload_n 1, 1) := by decide +kernel
theorem dX3_dividedByLimb_112 : decode cX3_dividedByLimb 112 = .ok (.iaload, 1) := by decide +kernel
theorem dX3_dividedByLimb_113 : decode cX3_dividedByLimb 113 = .ok (.aload_n 0, 1) := by decide +kernel
theorem dX3_dividedByLimb_114 : decode cX3_dividedByLimb 114 = .ok (.getfield 11, 3) := by decide +kernel
theorem dX3_dividedByLimb_117 : decode cX3_dividedByLimb 117 = .ok (.iload_n 2, 1) := by decide +kernel
theorem dX3_dividedByLimb_118 : decode cX3_dividedByLimb 118 = .ok (.iaload, 1) := by decide +kernel
theorem dX3_dividedByLimb_119 : decode cX3_dividedByLimb 119 = .ok (.ixor, 1) := by decide +kernel
theorem dX3_dividedByLimb_120 : decode cX3_dividedByLimb 120 = .ok (.iconst 1, 1) := by decide +kernel
theorem dX3_dividedByLimb_121 : decode cX3_dividedByLimb 121 = .ok (.iand, 1) := by decide +kernel
theorem dX3_dividedByLimb_122 : decode cX3_dividedByLimb 122 = .ok (.iconst 1, 1) := by decide +kernel
theorem dX3_dividedByLimb_123 : decode cX3_dividedByLimb 123 = .ok (.if_icmp .ne 7, 3) := by decide +kernel
theorem dX3_dividedByLimb_126 : decode cX3_dividedByLimb 126 = .ok (.iconst 1, 1) := by decide +kernel
theorem dX3_dividedByLimb_127 : decode cX3_dividedByLimb 127 = .ok (.goto 4, 3) := by decide +kernel
theorem dX3_dividedByLimb_130 : decode cX3_dividedByLimb 130 = .ok (.iconst 0, 1) := by decide +kernel
theorem dX3_dividedByLimb_131 : decode cX3_dividedByLimb 131 = .ok (.invokevirtual 47, 3) := by decide +kernel
theorem dX3_dividedByLimb_134 : decode cX3_dividedByLimb 134 = .ok (.pop, 1) := by decide +kernel
theorem dX3_dividedByLimb_135 : decode cX3_dividedByLimb 135 = .ok (.aload_n 0, 1) := by decide +kernel
theorem dX3_dividedByLimb_136 : decode cX3_dividedByLimb 136 = .ok (.getfield 15, 3) := by decide +kernel
theorem dX3_dividedByLimb_139 : decode cX3_dividedByLimb 139 = .ok (.istore 9, 2) := by decide +kernel
theorem dX3_dividedByLimb_141 : decode cX3_dividedByLimb 141 = .ok (.aload_n 0, 1) := by decide +kernel
theorem dX3_dividedByLimb_142 : decode cX3_dividedByLimb 142 = .ok (.getfield 11, 3) := by decide +kernel
theorem dX3_dividedByLimb_145 : decode cX3_dividedByLimb 145 = .ok (.iload 9, 2) := by decide +kernel
theorem dX3_dividedByLimb_147 : decode cX3_dividedByLimb 147 = .ok (.iconst 1, 1) := by decide +kernel
theorem dX3_dividedByLimb_148 : decode cX3_dividedByLimb 148 = .ok (.iadd, 1) := by decide +kernel
theorem dX3_dividedByLimb_149 : decode cX3_dividedByLimb 149 = .ok (.lload 7, 2) := by decide +kernel
theorem dX3_dividedByLimb_151 : decode cX3_dividedByLimb 151 = .ok (.l2i, 1) := by decide +kernel
theorem dX3_dividedByLimb_152 : decode cX3_dividedByLimb 152 = .ok (.iastore, 1) := by decide +kernel
theorem dX3_dividedByLimb_153 : decode cX3_dividedByLimb 153 = .ok (.aload_n 0, 1) := by decide +kernel
theorem dX3_dividedByLimb_154 : decode cX3_dividedByLimb 154 = .ok (.iload 9, 2) := by decide +kernel
theorem dX3_dividedByLimb_156 : decode cX3_dividedByLimb 156 = .ok (.iconst 1, 1) := by decide +kernel
theorem dX3_dividedByLimb_157 : decode cX3_dividedByLimb 157 = .ok (.aload_n 0, 1) := by decide +kernel
theorem dX3_dividedByLimb_158 : decode cX3_dividedByLimb 158 = .ok (.iload_n 1, 1) := by decide +kernel
theorem dX3_dividedByLimb_159 : decode cX3_dividedByLimb 159 = .ok (.invokevirtual 67, 3) := by decide +kernel
theorem dX3_dividedByLimb_162 : decode cX3_dividedByLimb 162 = .ok (.invokevirtual 47, 3) := by decide +kernel
theorem dX3_dividedByLimb_165 : decode cX3_dividedByLimb 165 = .ok (.pop, 1) := by decide +kernel
theorem dX3_dividedByLimb_166 : decode cX3_dividedByLimb 166 = .ok (.iload 4, 2) := by decide +kernel
theorem dX3_dividedByLimb_168 : decode cX3_dividedByLimb 168 = .ok (.ireturn, 1) := by decide +kernel
theorem dX3_dividedByLimbs_0 : decode cX3_dividedByLimbs 0 = .ok (.aload_n 0, 1) := by decide +kernel
theorem dX3_dividedByLimbs_1 : decode cX3_dividedByLimbs 1 = .ok (.getfield 11, 3) := by decide +kernel
theorem dX3_dividedByLimbs_4 : decode cX3_dividedByLimbs 4 = .ok (.iload_n 1, 1) := by decide +kernel
theorem dX3_dividedByLimbs_5 : decode cX3_dividedByLimbs 5 = .ok (.iaload, 1) := by decide +kernel
theorem dX3_dividedByLimbs_6 : decode cX3_dividedByLimbs 6 = .ok (.iconst 1, 1) := by decide +kernel
theorem dX3_dividedByLimbs_7 : decode cX3_dividedByLimbs 7 = .ok (.ishr, 1) := by decide +kernel
theorem dX3_dividedByLimbs_8 : decode cX3_dividedByLimbs 8 = .ok (.istore_n 3, 1) := by decide +kernel
theorem dX3_dividedByLimbs_9 : decode cX3_dividedByLimbs 9 = .ok (.aload_n 0, 1) := by decide +kernel
theorem dX3_dividedByLimbs_10 : decode cX3_dividedByLimbs 10 = .ok (.getfield 11, 3) := by decide +kernel
theorem dX3_dividedByLimbs_13 : decode cX3_dividedByLimbs 13 = .ok (.iload_n 2, 1) := by decide +kernel
theorem dX3_dividedByLimbs_14 : decode cX3_dividedByLimbs 14 = .ok (.iaload, 1) := by decide +kernel
theorem dX3_dividedByLimbs_15 : decode cX3_dividedByLimbs 15 = .ok (.iconst 1, 1) := by decide +kernel
theorem dX3_dividedByLimbs_16 : decode cX3_dividedByLimbs 16 = .ok (.ishr, 1) := by decide +kernel
theorem dX3_dividedByLimbs_17 : decode cX3_dividedByLimbs 17 = .ok (.istore 4, 2) := by decide +kernel
theorem dX3_dividedByLimbs_19 : decode cX3_dividedByLimbs 19 = .ok (.aload_n 0, 1) := by decide +kernel
theorem dX3_dividedByLimbs_20 : decode cX3_dividedByLimbs 20 = .ok (.iconst 2, 1) := by decide +kernel
theorem dX3_dividedByLimbs_21 : decode cX3_dividedByLimbs 21 = .ok (.iload_n 3, 1) := by decide +kernel
theorem dX3_dividedByLimbs_22 : decode cX3_dividedByLimbs 22 = .ok (.imul, 1) := by decide +kernel
theorem dX3_dividedByLimbs_23 : decode cX3_dividedByLimbs 23 = .ok (.bipush 8, 2) := by decide +kernel
theorem dX3_dividedByLimbs_25 : decode cX3_dividedByLimbs 25 = .ok (.iadd, 1) := by decide +kernel
theorem dX3_dividedByLimbs_26 : decode cX3_dividedByLimbs 26 = .ok (.invokevirtual 41, 3) := by decide +kernel
theorem dX3_dividedByLimbs_29 : decode cX3_dividedByLimbs 29 = .ok (.aload_n 0, 1) := by decide +kernel
theorem dX3_dividedByLimbs_30 : decode cX3_dividedByLimbs 30 = .ok (.getfield 15, 3) := by decide +kernel
theorem dX3_dividedByLimbs_33 : decode cX3_dividedByLimbs 33 = .ok (.istore 5, 2) := by decide +kernel
theorem dX3_dividedByLimbs_35 : decode cX3_dividedByLimbs 35 = .ok (.iload 5, 2) := by decide +kernel
theorem dX3_dividedByLimbs_37 : decode cX3_dividedByLimbs 37 = .ok (.iload_n 3, 1) := by decide +kernel
theorem dX3_dividedByLimbs_38 : decode cX3_dividedByLimbs 38 = .ok (.iadd, 1) := by decide +kernel
theorem dX3_dividedByLimbs_39 : decode cX3_dividedByLimbs 39 = .ok (.iload 4, 2) := by decide +kernel
theorem dX3_dividedByLimbs_41 : decode cX3_dividedByLimbs 41 = .ok (.isub, 1) := by decide +kernel
theorem dX3_dividedByLimbs_42 : decode cX3_dividedByLimbs 42 = .ok (.iconst 3, 1) := by decide +kernel
theorem dX3_dividedByLimbs_43 : decode cX3_dividedByLimbs 43 = .ok (.iadd, 1) := by decide +kernel
theorem dX3_dividedByLimbs_44 : decode cX3_dividedByLimbs 44 = .ok (.istore 6, 2) := by decide +kernel
theorem dX3_dividedByLimbs_46 : decode cX3_dividedByLimbs 46 = .ok (.iload 6, 2) := by decide +kernel
theorem dX3_dividedByLimbs_48 : decode cX3_dividedByLimbs 48 = .ok (.iload_n 3, 1) := by decide +kernel
theorem dX3_dividedByLimbs_49 : decode cX3_dividedByLimbs 49 = .ok (.iadd, 1) := by decide +kernel
theorem dX3_dividedByLimbs_50 : decode cX3_dividedByLimbs 50 = .ok (.iconst 1, 1) := by decide +kernel
theorem dX3_dividedByLimbs_51 : decode cX3_dividedByLimbs 51 = .ok (.iadd, 1) := by decide +kernel
theorem dX3_dividedByLimbs_52 : decode cX3_dividedByLimbs 52 = .ok (.istore 7, 2) := by decide +kernel
theorem dX3_dividedByLimbs_54 : decode cX3_dividedByLimbs 54 = .ok (.ldc 71, 2) := by decide +kernel
theorem dX3_dividedByLimbs_56 : decode cX3_dividedByLimbs 56 = .ok (.aload_n 0, 1) := by decide +kernel
theorem dX3_dividedByLimbs_57 : decode cX3_dividedByLimbs 57 = .ok (.getfield 11, 3) := by decide +kernel
theorem dX3_dividedByLimbs_60 : decode cX3_dividedByLimbs 60 = .ok (.iload_n 2, 1) := by decide +kernel
theorem dX3_dividedByLimbs_61 : decode cX3_dividedByLimbs 61 = .ok (.iload 4, 2) := by decide +kernel
theorem dX3_dividedByLimbs_63 : decode cX3_dividedByLimbs 63 = .ok (.iadd, 1) := by decide +kernel
theorem dX3_dividedByLimbs_64 : decode cX3_dividedByLimbs 64 = .ok (.iaload, 1) := by decide +kernel
theorem dX3_dividedByLimbs_65 : decode cX3_dividedByLimbs 65 = .ok (.iconst 1, 1) := by decide +kernel
theorem dX3_dividedByLimbs_66 : decode cX3_dividedByLimbs 66 = .ok (.iadd, 1) := by decide +kernel
theorem dX3_dividedByLimbs_67 : decode cX3_dividedByLimbs 67 = .ok (.idiv, 1) := by decide +kernel
theorem dX3_dividedByLimbs_68 : decode cX3_dividedByLimbs 68 = .ok (.istore 8, 2) := by decide +kernel
theorem dX3_dividedByLimbs_70 : decode cX3_dividedByLimbs 70 = .ok (.aload_n 0, 1) := by decide +kernel
theorem dX3_dividedByLimbs_71 : decode cX3_dividedByLimbs 71 = .ok (.iload_n 1, 1) := by decide +kernel
theorem dX3_dividedByLimbs_72 : decode cX3_dividedByLimbs 72 = .ok (.iload_n 3, 1) := by decide +kernel
theorem dX3_dividedByLimbs_73 : decode cX3_dividedByLimbs 73 = .ok (.iload 8, 2) := by decide +kernel
theorem dX3_dividedByLimbs_75 : decode cX3_dividedByLimbs 75 = .ok (.iload 6, 2) := by decide +kernel
theorem dX3_dividedByLimbs_77 : decode cX3_dividedByLimbs 77 = .ok (.invokevirtual 92, 3) := by decide +kernel
theorem dX3_dividedByLimbs_80 : decode cX3_dividedByLimbs 80 = .ok (.aload_n 0, 1) := by decide +kernel
theorem dX3_dividedByLimbs_81 : decode cX3_dividedByLimbs 81 = .ok (.iload_n 2, 1) := by decide +kernel
theorem dX3_dividedByLimbs_82 : decode cX3_dividedByLimbs 82 = .ok (.iload 4, 2) := by decide +kernel
theorem dX3_dividedByLimbs_84 : decode cX3_dividedByLimbs 84 = .ok (.iload 8, 2) := by decide +kernel
theorem dX3_dividedByLimbs_86 : decode cX3_dividedByLimbs 86 = .ok (.iload 7, 2) := by decide +kernel
theorem dX3_dividedByLimbs_88 : decode cX3_dividedByLimbs 88 = .ok (.invokevirtual 92, 3) := by decide +kernel
theorem dX3_dividedByLimbs_91 : decode cX3_dividedByLimbs 91 = .ok (.iload_n 3, 1) := by decide +kernel
theorem dX3_dividedByLimbs_92 : decode cX3_dividedByLimbs 92 = .ok (.iload 4, 2) := by decide +kernel
theorem dX3_dividedByLimbs_94 : decode cX3_dividedByLimbs 94 = .ok (.isub, 1) := by decide +kernel
theorem dX3_dividedByLimbs_95 : decode cX3_dividedByLimbs 95 = .ok (.istore 9, 2) := by decide +kernel
theorem dX3_dividedByLimbs_97 : decode cX3_dividedByLimbs 97 = .ok (.iload 9, 2) := by decide +kernel
theorem dX3_dividedByLimbs_99 : decode cX3_dividedByLimbs 99 = .ok (.ifCond .lt 34, 3) := by decide +kernel
theorem dX3_dividedByLimbs_102 : decode cX3_dividedByLimbs 102 = .ok (.aload_n 0, 1) := by decide +kernel
theorem dX3_dividedByLimbs_103 : decode cX3_dividedByLimbs 103 = .ok (.getfield 11, 3) := by decide +kernel
theorem dX3_dividedByLimbs_106 : decode cX3_dividedByLimbs 106 = .ok (.iload 5, 2) := by decide +kernel
theorem dX3_dividedByLimbs_108 : decode cX3_dividedByLimbs 108 = .ok (.iconst 1, 1) := by decide +kernel
theorem dX3_dividedByLimbs_109 : decode cX3_dividedByLimbs 109 = .ok (.iadd, 1) := by decide +kernel
theorem dX3_dividedByLimbs_110 : decode cX3_dividedByLimbs 110 = .ok (.iload 9, 2) := by decide +kernel
theorem dX3_dividedByLimbs_112 : decode cX3_dividedByLimbs 112 = .ok (.iadd, 1) := by decide +kernel
theorem dX3_dividedByLimbs_113 : decode cX3_dividedByLimbs 113 = .ok (.aload_n 0, 1) := by decide +kernel
theorem dX3_dividedByLimbs_114 : decode cX3_dividedByLimbs 114 = .ok (.iload 6, 2) := by decide +kernel
theorem dX3_dividedByLimbs_116 : decode cX3_dividedByLimbs 116 = .ok (.iload 9, 2) := by decide +kernel
theorem dX3_dividedByLimbs_118 : decode cX3_dividedByLimbs 118 = .ok (.iadd, 1) := by decide +kernel
theorem dX3_dividedByLimbs_119 : decode cX3_dividedByLimbs 119 = .ok (.iload 7, 2) := by decide +kernel
theorem dX3_dividedByLimbs_121 : decode cX3_dividedByLimbs 121 = .ok (.iload 4, 2) := by decide +kernel
theorem dX3_dividedByLimbs_123 : decode cX3_dividedByLimbs 123 = .ok (.invokevirtual 96, 3) := by decide +kernel
theorem dX3_dividedByLimbs_126 : decode cX3_dividedByLimbs 126 = .ok (.iastore, 1) := by decide +kernel
theorem dX3_dividedByLimbs_127 : decode cX3_dividedByLimbs 127 = .ok (.iinc 9 (-1), 3) := by decide +kernel
theorem dX3_dividedByLimbs_130 : decode cX3_dividedByLimbs 130 = .ok (.goto (-33), 3) := by decide +kernel
theorem dX3_dividedByLimbs_133 : decode cX3_dividedByLimbs 133 = .ok (.lconst 0, 1) := by decide +kernel
theorem dX3_dividedByLimbs_134 : decode cX3_dividedByLimbs 134 = .ok (.lstore 9, 2) := by decide +kernel
theorem dX3_dividedByLimbs_136 : decode cX3_dividedByLimbs 136 = .ok (.iload 4, 2) := by decide +kernel
theorem dX3_dividedByLimbs_138 : decode cX3_dividedByLimbs 138 = .ok (.iconst 1, 1) := by decide +kernel
theorem dX3_dividedByLimbs_139 : decode cX3_dividedByLimbs 139 = .ok (.isub, 1) := by decide +kernel
theorem dX3_dividedByLimbs_140 : decode cX3_dividedByLimbs 140 = .ok (.istore 11, 2) := by decide +kernel
theorem dX3_dividedByLimbs_142 : decode cX3_dividedByLimbs 142 = .ok (.iload 11, 2) := by decide +kernel
theorem dX3_dividedByLimbs_144 : decode cX3_dividedByLimbs 144 = .ok (.ifCond .lt 54, 3) := by decide +kernel
theorem dX3_dividedByLimbs_147 : decode cX3_dividedByLimbs 147 = .ok (.lload 9, 2) := by decide +kernel
theorem dX3_dividedByLimbs_149 : decode cX3_dividedByLimbs 149 = .ok (.ldc2_w 45, 3) := by decide +kernel
theorem dX3_dividedByLimbs_152 : decode cX3_dividedByLimbs 152 = .ok (.lmul, 1) := by decide +kernel
theorem dX3_dividedByLimbs_153 : decode cX3_dividedByLimbs 153 = .ok (.aload_n 0, 1) := by decide +kernel
theorem dX3_dividedByLimbs_154 : decode cX3_dividedByLimbs 154 = .ok (.getfield 11, 3) := by decide +kernel
theorem dX3_dividedByLimbs_157 : decode cX3_dividedByLimbs 157 = .ok (.iload 6, 2) := by decide +kernel
theorem dX3_dividedByLimbs_159 : decode cX3_dividedByLimbs 159 = .ok (.iload 11, 2) := by decide +kernel
theorem dX3_dividedByLimbs_161 : decode cX3_dividedByLimbs 161 = .ok (.iadd, 1) := by decide +kernel
theorem dX3_dividedByLimbs_162 : decode cX3_dividedByLimbs 162 = .ok (.iaload, 1) := by decide +kernel
theorem dX3_dividedByLimbs_163 : decode cX3_dividedByLimbs 163 = .ok (.i2l, 1) := by decide +kernel
theorem dX3_dividedByLimbs_164 : decode cX3_dividedByLimbs 164 = .ok (.ladd, 1) := by decide +kernel
theorem dX3_dividedByLimbs_165 : decode cX3_dividedByLimbs 165 = .ok (.lstore 12, 2) := by decide +kernel
theorem dX3_dividedByLimbs_167 : decode cX3_dividedByLimbs 167 = .ok (.aload_n 0, 1) := by decide +kernel
theorem dX3_dividedByLimbs_168 : decode cX3_dividedByLimbs 168 = .ok (.getfield 11, 3) := by decide +kernel
theorem dX3_dividedByLimbs_171 : decode cX3_dividedByLimbs 171 = .ok (.iload 6, 2) := by decide +kernel
theorem dX3_dividedByLimbs_173 : decode cX3_dividedByLimbs 173 = .ok (.iload 11, 2) := by decide +kernel
theorem dX3_dividedByLimbs_175 : decode cX3_dividedByLimbs 175 = .ok (.iadd, 1) := by decide +kernel
theorem dX3_dividedByLimbs_176 : decode cX3_dividedByLimbs 176 = .ok (.lload 12, 2) := by decide +kernel
theorem dX3_dividedByLimbs_178 : decode cX3_dividedByLimbs 178 = .ok (.iload 8, 2) := by decide +kernel
theorem dX3_dividedByLimbs_180 : decode cX3_dividedByLimbs 180 = .ok (.i2l, 1) := by decide +kernel
theorem dX3_dividedByLimbs_181 : decode cX3_dividedByLimbs 181 = .ok (.ldiv, 1) := by decide +kernel
theorem dX3_dividedByLimbs_182 : decode cX3_dividedByLimbs 182 = .ok (.l2i, 1) := by decide +kernel
theorem dX3_dividedByLimbs_183 : decode cX3_dividedByLimbs 183 = .ok (.iastore, 1) := by decide +kernel
theorem dX3_dividedByLimbs_184 : decode cX3_dividedByLimbs 184 = .ok (.lload 12, 2) := by decide +kernel
theorem dX3_dividedByLimbs_186 : decode cX3_dividedByLimbs 186 = .ok (.iload 8, 2) := by decide +kernel
theorem dX3_dividedByLimbs_188 : decode cX3_dividedByLimbs 188 = .ok (.i2l, 1) := by decide +kernel
theorem dX3_dividedByLimbs_189 : decode cX3_dividedByLimbs 189 = .ok (.lrem, 1) := by decide +kernel
theorem dX3_dividedByLimbs_190 : decode cX3_dividedByLimbs 190 = .ok (.lstore 9, 2) := by decide +kernel
theorem dX3_dividedByLimbs_192 : decode cX3_dividedByLimbs 192 = .ok (.iinc 11 (-1), 3) := by decide +kernel
theorem dX3_dividedByLimbs_195 : decode cX3_dividedByLimbs 195 = .ok (.goto (-53), 3) := by decide +kernel
theorem dX3_dividedByLimbs_198 : decode cX3_dividedByLimbs 198 = .ok (.aload_n 0, 1) := by decide +kernel
theorem dX3_dividedByLimbs_199 : decode cX3_dividedByLimbs 199 = .ok (.iload 5, 2) := by decide +kernel
theorem dX3_dividedByLimbs_201 : decode cX3_dividedByLimbs 201 = .ok (.iload_n 3, 1) := by decide +kernel
theorem dX3_dividedByLimbs_202 : decode cX3_dividedByLimbs 202 = .ok (.iload 4, 2) := by decide +kernel
theorem dX3_dividedByLimbs_204 : decode cX3_dividedByLimbs 204 = .ok (.isub, 1) := by decide +kernel
theorem dX3_dividedByLimbs_205 : decode cX3_dividedByLimbs 205 = .ok (.iconst 1, 1) := by decide +kernel
theorem dX3_dividedByLimbs_206 : decode cX3_dividedByLimbs 206 = .ok (.iadd, 1) := by decide +kernel
theorem dX3_dividedByLimbs_207 : decode cX3_dividedByLimbs 207 = .ok (.aload_n 0, 1) := by decide +kernel
theorem dX3_dividedByLimbs_208 : decode cX3_dividedByLimbs 208 = .ok (.getfield 11, 3) := by decide +kernel
theorem dX3_dividedByLimbs_211 : decode cX3_dividedByLimbs 211 = .ok (.iload_n 1, 1) := by decide +kernel
theorem dX3_dividedByLimbs_212 : decode cX3_dividedByLimbs 212 = .ok (.iaload, 1) := by decide +kernel
theorem dX3_dividedByLimbs_213 : decode cX3_dividedByLimbs 213 = .ok (.aload_n 0, 1) := by decide +kernel
theorem dX3_dividedByLimbs_214 : decode cX3_dividedByLimbs 214 = .ok (.getfield 11, 3) := by decide +kernel
theorem dX3_dividedByLimbs_217 : decode cX3_dividedByLimbs 217 = .ok (.iload_n 2, 1) := by decide +kernel
theorem dX3_dividedByLimbs_218 : decode cX3_dividedByLimbs 218 = .ok (.iaload, 1) := by decide +kernel
theorem dX3_dividedByLimbs_219 : decode cX3_dividedByLimbs 219 = .ok (.ixor, 1) := by decide +kernel
theorem dX3_dividedByLimbs_220 : decode cX3_dividedByLimbs 220 = .ok (.iconst 1, 1) := by decide +kernel
theorem dX3_dividedByLimbs_221 : decode cX3_dividedByLimbs 221 = .ok (.iand, 1) := by decide +kernel
theorem dX3_dividedByLimbs_222 : decode cX3_dividedByLimbs 222 = .ok (.iconst 1, 1) := by decide +kernel
theorem dX3_dividedByLimbs_223 : decode cX3_dividedByLimbs 223 = .ok (.if_icmp .ne 7, 3) := by decide +kernel
theorem dX3_dividedByLimbs_226 : decode cX3_dividedByLimbs 226 = .ok (.iconst 1, 1) := by decide +kernel
theorem dX3_dividedByLimbs_227 : decode cX3_dividedByLimbs 227 = .ok (.goto 4, 3) := by decide +kernel
theorem dX3_dividedByLimbs_230 : decode cX3_dividedByLimbs 230 = .ok (.iconst 0, 1) := by decide +kernel
theorem dX3_dividedByLimbs_231 : decode cX3_dividedByLimbs 231 = .ok (.invokevirtual 47, 3) := by decide +kernel
theorem dX3_dividedByLimbs_234 : decode cX3_dividedByLimbs 234 = .ok (.pop, 1) := by decide +kernel
theorem dX3_dividedByLimbs_235 : decode cX3_dividedByLimbs 235 = .ok (.aload_n 0, 1) := by decide +kernel
theorem dX3_dividedByLimbs_236 : decode cX3_dividedByLimbs 236 = .ok (.getfield 15, 3) := by decide +kernel
theorem dX3_dividedByLimbs_239 : decode cX3_dividedByLimbs 239 = .ok (.istore 11, 2) := by decide +kernel
theorem dX3_dividedByLimbs_241 : decode cX3_dividedByLimbs 241 = .ok (.aload_n 0, 1) := by decide +kernel
theorem dX3_dividedByLimbs_242 : decode cX3_dividedByLimbs 242 = .ok (.getfield 11, 3) := by decide +kernel
theorem dX3_dividedByLimbs_245 : decode cX3_dividedByLimbs 245 = .ok (.iload 6, 2) := by decide +kernel
theorem dX3_dividedByLimbs_247 : decode cX3_dividedByLimbs 247 = .ok (.aload_n 0, 1) := by decide +kernel
theorem dX3_dividedByLimbs_248 : decode cX3_dividedByLimbs 248 = .ok (.getfield 11, 3) := by decide +kernel
theorem dX3_dividedByLimbs_251 : decode cX3_dividedByLimbs 251 = .ok (.iload 11, 2) := by decide +kernel
theorem dX3_dividedByLimbs_253 : decode cX3_dividedByLimbs 253 = .ok (.iconst 1, 1) := by decide +kernel
theorem dX3_dividedByLimbs_254 : decode cX3_dividedByLimbs 254 = .ok (.iadd, 1) := by decide +kernel
theorem dX3_dividedByLimbs_255 : decode cX3_dividedByLimbs 255 = .ok (.iload 4, 2) := by decide +kernel
theorem dX3_dividedByLimbs_257 : decode cX3_dividedByLimbs 257 = .ok (.invokestatic 58, 3) := by decide +kernel
theorem dX3_dividedByLimbs_260 : decode cX3_dividedByLimbs 260 = .ok (.aload_n 0, 1) := by decide +kernel
theorem dX3_dividedByLimbs_261 : decode cX3_dividedByLimbs 261 = .ok (.iload 11, 2) := by decide +kernel
theorem dX3_dividedByLimbs_263 : decode cX3_dividedByLimbs 263 = .ok (.iload 4, 2) := by decide +kernel
theorem dX3_dividedByLimbs_265 : decode cX3_dividedByLimbs 265 = .ok (.aload_n 0, 1) := by decide +kernel
theorem dX3_dividedByLimbs_266 : decode cX3_dividedByLimbs 266 = .ok (.iload_n 1, 1) := by decide +kernel
theorem dX3_dividedByLimbs_267 : decode cX3_dividedByLimbs 267 = .ok (.invokevirtual 67, 3) := by decide +kernel
theorem dX3_dividedByLimbs_270 : decode cX3_dividedByLimbs 270 = .ok (.invokevirtual 47, 3) := by decide +kernel
theorem dX3_dividedByLimbs_273 : decode cX3_dividedByLimbs 273 = .ok (.pop, 1) := by decide +kernel
theorem dX3_dividedByLimbs_274 : decode cX3_dividedByLimbs 274 = .ok (.iload 5, 2) := by decide +kernel
theorem dX3_dividedByLimbs_276 : decode cX3_dividedByLimbs 276 = .ok (.ireturn, 1) := by decide +kernel
theorem dX3_multiply_0 : decode cX3_multiply 0 = .ok (.lconst 0, 1) := by decide +kernel
theorem dX3_multiply_1 : decode cX3_multiply 1 = .ok (.lstore 5, 2) := by decide +kernel
theorem dX3_multiply_3 : decode cX3_multiply 3 = .ok (.iconst 0, 1) := by decide +kernel
theorem dX3_multiply_4 : decode cX3_multiply 4 = .ok (.istore 7, 2) := by decide +kernel
theorem dX3_multiply_6 : decode cX3_multiply 6 = .ok (.iload 7, 2) := by decide +kernel
theorem dX3_multiply_8 : decode cX3_multiply 8 = .ok (.iload_n 2, 1) := by decide +kernel
theorem dX3_multiply_9 : decode cX3_multiply 9 = .ok (.if_icmp .ge 57, 3) := by decide +kernel
theorem dX3_multiply_12 : decode cX3_multiply 12 = .ok (.aload_n 0, 1) := by decide +kernel
theorem dX3_multiply_13 : decode cX3_multiply 13 = .ok (.getfield 11, 3) := by decide +kernel
theorem dX3_multiply_16 : decode cX3_multiply 16 = .ok (.iload_n 1, 1) := by decide +kernel
theorem dX3_multiply_17 : decode cX3_multiply 17 = .ok (.iconst 1, 1) := by decide +kernel
theorem dX3_multiply_18 : decode cX3_multiply 18 = .ok (.iadd, 1) := by decide +kernel
theorem dX3_multiply_19 : decode cX3_multiply 19 = .ok (.iload 7, 2) := by decide +kernel
theorem dX3_multiply_21 : decode cX3_multiply 21 = .ok (.iadd, 1) := by decide +kernel
theorem dX3_multiply_22 : decode cX3_multiply 22 = .ok (.iaload, 1) := by decide +kernel
theorem dX3_multiply_23 : decode cX3_multiply 23 = .ok (.i2l, 1) := by decide +kernel
theorem dX3_multiply_24 : decode cX3_multiply 24 = .ok (.iload_n 3, 1) := by decide +kernel
theorem dX3_multiply_25 : decode cX3_multiply 25 = .ok (.i2l, 1) := by decide +kernel
theorem dX3_multiply_26 : decode cX3_multiply 26 = .ok (.lmul, 1) := by decide +kernel
theorem dX3_multiply_27 : decode cX3_multiply 27 = .ok (.lload 5, 2) := by decide +kernel
theorem dX3_multiply_29 : decode cX3_multiply 29 = .ok (.ladd, 1) := by decide +kernel
theorem dX3_multiply_30 : decode cX3_multiply 30 = .ok (.lstore 8, 2) := by decide +kernel
theorem dX3_multiply_32 : decode cX3_multiply 32 = .ok (.lload 8, 2) := by decide +kernel
theorem dX3_multiply_34 : decode cX3_multiply 34 = .ok (.ldc2_w 45, 3) := by decide +kernel
theorem dX3_multiply_37 : decode cX3_multiply 37 = .ok (.ldiv, 1) := by decide +kernel
theorem dX3_multiply_38 : decode cX3_multiply 38 = .ok (.lstore 5, 2) := by decide +kernel
theorem dX3_multiply_40 : decode cX3_multiply 40 = .ok (.aload_n 0, 1) := by decide +kernel
theorem dX3_multiply_41 : decode cX3_multiply 41 = .ok (.getfield 11, 3) := by decide +kernel
theorem dX3_multiply_44 : decode cX3_multiply 44 = .ok (.iload 4, 2) := by decide +kernel
theorem dX3_multiply_46 : decode cX3_multiply 46 = .ok (.iload 7, 2) := by decide +kernel
theorem dX3_multiply_48 : decode cX3_multiply 48 = .ok (.iadd, 1) := by decide +kernel
theorem dX3_multiply_49 : decode cX3_multiply 49 = .ok (.lload 8, 2) := by decide +kernel
theorem dX3_multiply_51 : decode cX3_multiply 51 = .ok (.lload 5, 2) := by decide +kernel
theorem dX3_multiply_53 : decode cX3_multiply 53 = .ok (.ldc2_w 45, 3) := by decide +kernel
theorem dX3_multiply_56 : decode cX3_multiply 56 = .ok (.lmul, 1) := by decide +kernel
theorem dX3_multiply_57 : decode cX3_multiply 57 = .ok (.lsub, 1) := by decide +kernel
theorem dX3_multiply_58 : decode cX3_multiply 58 = .ok (.l2i, 1) := by decide +kernel
theorem dX3_multiply_59 : decode cX3_multiply 59 = .ok (.iastore, 1) := by decide +kernel
theorem dX3_multiply_60 : decode cX3_multiply 60 = .ok (.iinc 7 1, 3) := by decide +kernel
theorem dX3_multiply_63 : decode cX3_multiply 63 = .ok (.goto (-57), 3) := by decide +kernel
theorem dX3_multiply_66 : decode cX3_multiply 66 = .ok (.aload_n 0, 1) := by decide +kernel
theorem dX3_multiply_67 : decode cX3_multiply 67 = .ok (.getfield 11, 3) := by decide +kernel
theorem dX3_multiply_70 : decode cX3_multiply 70 = .ok (.iload 4, 2) := by decide +kernel
theorem dX3_multiply_72 : decode cX3_multiply 72 = .ok (.iload_n 2, 1) := by decide +kernel
theorem dX3_multiply_73 : decode cX3_multiply 73 = .ok (.iadd, 1) := by decide +kernel
theorem dX3_multiply_74 : decode cX3_multiply 74 = .ok (.lload 5, 2) := by decide +kernel
theorem dX3_multiply_76 : decode cX3_multiply 76 = .ok (.l2i, 1) := by decide +kernel
theorem dX3_multiply_77 : decode cX3_multiply 77 = .ok (.iastore, 1) := by decide +kernel
theorem dX3_multiply_78 : decode cX3_multiply 78 = .ok (.return_, 1) := by decide +kernel
theorem dX3_quotientLimb_0 : decode cX3_quotientLimb 0 = .ok (.aload_n 0, 1) := by decide +kernel
theorem dX3_quotientLimb_1 : decode cX3_quotientLimb 1 = .ok (.getfield 11, 3) := by decide +kernel
theorem dX3_quotientLimb_4 : decode cX3_quotientLimb 4 = .ok (.astore 4, 2) := by decide +kernel
theorem dX3_quotientLimb_6 : decode cX3_quotientLimb 6 = .ok (.aload 4, 2) := by decide +kernel
theorem dX3_quotientLimb_8 : decode cX3_quotientLimb 8 = .ok (.iload_n 1, 1) := by decide +kernel
theorem dX3_quotientLimb_9 : decode cX3_quotientLimb 9 = .ok (.iload_n 3, 1) := by decide +kernel
theorem dX3_quotientLimb_10 : decode cX3_quotientLimb 10 = .ok (.iadd, 1) := by decide +kernel
theorem dX3_quotientLimb_11 : decode cX3_quotientLimb 11 = .ok (.iaload, 1) := by decide +kernel
theorem dX3_quotientLimb_12 : decode cX3_quotientLimb 12 = .ok (.i2l, 1) := by decide +kernel
theorem dX3_quotientLimb_13 : decode cX3_quotientLimb 13 = .ok (.ldc2_w 45, 3) := by decide +kernel
theorem dX3_quotientLimb_16 : decode cX3_quotientLimb 16 = .ok (.lmul, 1) := by decide +kernel
theorem dX3_quotientLimb_17 : decode cX3_quotientLimb 17 = .ok (.aload 4, 2) := by decide +kernel
theorem dX3_quotientLimb_19 : decode cX3_quotientLimb 19 = .ok (.iload_n 1, 1) := by decide +kernel
theorem dX3_quotientLimb_20 : decode cX3_quotientLimb 20 = .ok (.iload_n 3, 1) := by decide +kernel
theorem dX3_quotientLimb_21 : decode cX3_quotientLimb 21 = .ok (.iadd, 1) := by decide +kernel
theorem dX3_quotientLimb_22 : decode cX3_quotientLimb 22 = .ok (.iconst 1, 1) := by decide +kernel
theorem dX3_quotientLimb_23 : decode cX3_quotientLimb 23 = .ok (.isub, 1) := by decide +kernel
theorem dX3_quotientLimb_24 : decode cX3_quotientLimb 24 = .ok (.iaload, 1) := by decide +kernel
theorem dX3_quotientLimb_25 : decode cX3_quotientLimb 25 = .ok (.i2l, 1) := by decide +kernel
theorem dX3_quotientLimb_26 : decode cX3_quotientLimb 26 = .ok (.ladd, 1) := by decide +kernel
theorem dX3_quotientLimb_27 : decode cX3_quotientLimb 27 = .ok (.lstore 5, 2) := by decide +kernel
theorem dX3_quotientLimb_29 : decode cX3_quotientLimb 29 = .ok (.aload 4, 2) := by decide +kernel
theorem dX3_quotientLimb_31 : decode cX3_quotientLimb 31 = .ok (.iload_n 2, 1) := by decide +kernel
theorem dX3_quotientLimb_32 : decode cX3_quotientLimb 32 = .ok (.iload_n 3, 1) := by decide +kernel
theorem dX3_quotientLimb_33 : decode cX3_quotientLimb 33 = .ok (.iadd, 1) := by decide +kernel
theorem dX3_quotientLimb_34 : decode cX3_quotientLimb 34 = .ok (.iconst 1, 1) := by decide +kernel
theorem dX3_quotientLimb_35 : decode cX3_quotientLimb 35 = .ok (.isub, 1) := by decide +kernel
theorem dX3_quotientLimb_36 : decode cX3_quotientLimb 36 = .ok (.iaload, 1) := by decide +kernel
theorem dX3_quotientLimb_37 : decode cX3_quotientLimb 37 = .ok (.iconst 1, 1) := by decide +kernel
theorem dX3_quotientLimb_38 : decode cX3_quotientLimb 38 = .ok (.invokestatic 29, 3) := by decide +kernel
theorem dX3_quotientLimb_41 : decode cX3_quotientLimb 41 = .ok (.i2l, 1) := by decide +kernel
theorem dX3_quotientLimb_42 : decode cX3_quotientLimb 42 = .ok (.lstore 7, 2) := by decide +kernel
theorem dX3_quotientLimb_44 : decode cX3_quotientLimb 44 = .ok (.lload 5, 2) := by decide +kernel
theorem dX3_quotientLimb_46 : decode cX3_quotientLimb 46 = .ok (.lload 7, 2) := by decide +kernel
theorem dX3_quotientLimb_48 : decode cX3_quotientLimb 48 = .ok (.ldiv, 1) := by decide +kernel
theorem dX3_quotientLimb_49 : decode cX3_quotientLimb 49 = .ok (.lstore 9, 2) := by decide +kernel
theorem dX3_quotientLimb_51 : decode cX3_quotientLimb 51 = .ok (.lload 5, 2) := by decide +kernel
theorem dX3_quotientLimb_53 : decode cX3_quotientLimb 53 = .ok (.lload 9, 2) := by decide +kernel
theorem dX3_quotientLimb_55 : decode cX3_quotientLimb 55 = .ok (.lload 7, 2) := by decide +kernel
theorem dX3_quotientLimb_57 : decode cX3_quotientLimb 57 = .ok (.lmul, 1) := by decide +kernel
theorem dX3_quotientLimb_58 : decode cX3_quotientLimb 58 = .ok (.lsub, 1) := by decide +kernel
theorem dX3_quotientLimb_59 : decode cX3_quotientLimb 59 = .ok (.lstore 11, 2) := by decide +kernel
theorem dX3_quotientLimb_61 : decode cX3_quotientLimb 61 = .ok (.iconst 0, 1) := by decide +kernel
theorem dX3_quotientLimb_62 : decode cX3_quotientLimb 62 = .ok (.istore 13, 2) := by decide +kernel
theorem dX3_quotientLimb_64 : decode cX3_quotientLimb 64 = .ok (.iload 13, 2) := by decide +kernel
theorem dX3_quotientLimb_66 : decode cX3_quotientLimb 66 = .ok (.iconst 3, 1) := by decide +kernel
theorem dX3_quotientLimb_67 : decode cX3_quotientLimb 67 = .ok (.if_icmp .ge 75, 3) := by decide +kernel
theorem dX3_quotientLimb_70 : decode cX3_quotientLimb 70 = .ok (.lload 11, 2) := by decide +kernel
theorem dX3_quotientLimb_72 : decode cX3_quotientLimb 72 = .ok (.ldc2_w 45, 3) := by decide +kernel
theorem dX3_quotientLimb_75 : decode cX3_quotientLimb 75 = .ok (.lcmp, 1) := by decide +kernel
theorem dX3_quotientLimb_76 : decode cX3_quotientLimb 76 = .ok (.ifCond .ge 66, 3) := by decide +kernel
theorem dX3_quotientLimb_79 : decode cX3_quotientLimb 79 = .ok (.lload 9, 2) := by decide +kernel
theorem dX3_quotientLimb_81 : decode cX3_quotientLimb 81 = .ok (.ldc2_w 45, 3) := by decide +kernel
theorem dX3_quotientLimb_84 : decode cX3_quotientLimb 84 = .ok (.lcmp, 1) := by decide +kernel
theorem dX3_quotientLimb_85 : decode cX3_quotientLimb 85 = .ok (.ifCond .ge 38, 3) := by decide +kernel
theorem dX3_quotientLimb_88 : decode cX3_quotientLimb 88 = .ok (.lload 9, 2) := by decide +kernel
theorem dX3_quotientLimb_90 : decode cX3_quotientLimb 90 = .ok (.aload 4, 2) := by decide +kernel
theorem dX3_quotientLimb_92 : decode cX3_quotientLimb 92 = .ok (.iload_n 2, 1) := by decide +kernel
theorem dX3_quotientLimb_93 : decode cX3_quotientLimb 93 = .ok (.iload_n 3, 1) := by decide +kernel
theorem dX3_quotientLimb_94 : decode cX3_quotientLimb 94 = .ok (.iadd, 1) := by decide +kernel
theorem dX3_quotientLimb_95 : decode cX3_quotientLimb 95 = .ok (.iconst 2, 1) := by decide +kernel
theorem dX3_quotientLimb_96 : decode cX3_quotientLimb 96 = .ok (.isub, 1) := by decide +kernel
theorem dX3_quotientLimb_97 : decode cX3_quotientLimb 97 = .ok (.iaload, 1) := by decide +kernel
theorem dX3_quotientLimb_98 : decode cX3_quotientLimb 98 = .ok (.i2l, 1) := by decide +kernel
theorem dX3_quotientLimb_99 : decode cX3_quotientLimb 99 = .ok (.lmul, 1) := by decide +kernel
theorem dX3_quotientLimb_100 : decode cX3_quotientLimb 100 = .ok (.lload 11, 2) := by decide +kernel
theorem dX3_quotientLimb_102 : decode cX3_quotientLimb 102 = .ok (.ldc2_w 45, 3) := by decide +kernel
theorem dX3_quotientLimb_105 : decode cX3_quotientLimb 105 = .ok (.lmul, 1) := by decide +kernel
theorem dX3_quotientLimb_106 : decode cX3_quotientLimb 106 = .ok (.aload 4, 2) := by decide +kernel
theorem dX3_quotientLimb_108 : decode cX3_quotientLimb 108 = .ok (.iload_n 1, 1) := by decide +kernel
theorem dX3_quotientLimb_109 : decode cX3_quotientLimb 109 = .ok (.iload_n 3, 1) := by decide +kernel
theorem dX3_quotientLimb_110 : decode cX3_quotientLimb 110 = .ok (.iadd, 1) := by decide +kernel
theorem dX3_quotientLimb_111 : decode cX3_quotientLimb 111 = .ok (.iconst 2, 1) := by decide +kernel
theorem dX3_quotientLimb_112 : decode cX3_quotientLimb 112 = .ok (.isub, 1) := by decide +kernel
theorem dX3_quotientLimb_113 : decode cX3_quotientLimb 113 = .ok (.iaload, 1) := by decide +kernel
theorem dX3_quotientLimb_114 : decode cX3_quotientLimb 114 = .ok (.i2l, 1) := by decide +kernel
theorem dX3_quotientLimb_115 : decode cX3_quotientLimb 115 = .ok (.ladd, 1) := by decide +kernel
theorem dX3_quotientLimb_116 : decode cX3_quotientLimb 116 = .ok (.lcmp, 1) := by decide +kernel
theorem dX3_quotientLimb_117 : decode cX3_quotientLimb 117 = .ok (.ifCond .gt 6, 3) := by decide +kernel
theorem dX3_quotientLimb_120 : decode cX3_quotientLimb 120 = .ok (.goto 22, 3) := by decide +kernel
theorem dX3_quotientLimb_123 : decode cX3_quotientLimb 123 = .ok (.lload 9, 2) := by decide +kernel
theorem dX3_quotientLimb_125 : decode cX3_quotientLimb 125 = .ok (.lconst 1, 1) := by decide +kernel
theorem dX3_quotientLimb_126 : decode cX3_quotientLimb 126 = .ok (.lsub, 1) := by decide +kernel
theorem dX3_quotientLimb_127 : decode cX3_quotientLimb 127 = .ok (.lstore 9, 2) := by decide +kernel
theorem dX3_quotientLimb_129 : decode cX3_quotientLimb 129 = .ok (.lload 11, 2) := by decide +kernel
theorem dX3_quotientLimb_131 : decode cX3_quotientLimb 131 = .ok (.lload 7, 2) := by decide +kernel
theorem dX3_quotientLimb_133 : decode cX3_quotientLimb 133 = .ok (.ladd, 1) := by decide +kernel
theorem dX3_quotientLimb_134 : decode cX3_quotientLimb 134 = .ok (.lstore 11, 2) := by decide +kernel
theorem dX3_quotientLimb_136 : decode cX3_quotientLimb 136 = .ok (.iinc 13 1, 3) := by decide +kernel
theorem dX3_quotientLimb_139 : decode cX3_quotientLimb 139 = .ok (.goto (-75), 3) := by decide +kernel
theorem dX3_quotientLimb_142 : decode cX3_quotientLimb 142 = .ok (.lconst 0, 1) := by decide +kernel
theorem dX3_quotientLimb_143 : decode cX3_quotientLimb 143 = .ok (.lstore 13, 2) := by decide +kernel
theorem dX3_quotientLimb_145 : decode cX3_quotientLimb 145 = .ok (.iconst 0, 1) := by decide +kernel
theorem dX3_quotientLimb_146 : decode cX3_quotientLimb 146 = .ok (.istore 15, 2) := by decide +kernel
theorem dX3_quotientLimb_148 : decode cX3_quotientLimb 148 = .ok (.iload 15, 2) := by decide +kernel
theorem dX3_quotientLimb_150 : decode cX3_quotientLimb 150 = .ok (.iload_n 3, 1) := by decide +kernel
theorem dX3_quotientLimb_151 : decode cX3_quotientLimb 151 = .ok (.if_icmp .ge 80, 3) := by decide +kernel
theorem dX3_quotientLimb_154 : decode cX3_quotientLimb 154 = .ok (.lload 9, 2) := by decide +kernel
theorem dX3_quotientLimb_156 : decode cX3_quotientLimb 156 = .ok (.aload 4, 2) := by decide +kernel
theorem dX3_quotientLimb_158 : decode cX3_quotientLimb 158 = .ok (.iload_n 2, 1) := by decide +kernel
theorem dX3_quotientLimb_159 : decode cX3_quotientLimb 159 = .ok (.iload 15, 2) := by decide +kernel
theorem dX3_quotientLimb_161 : decode cX3_quotientLimb 161 = .ok (.iadd, 1) := by decide +kernel
theorem dX3_quotientLimb_162 : decode cX3_quotientLimb 162 = .ok (.iaload, 1) := by decide +kernel
theorem dX3_quotientLimb_163 : decode cX3_quotientLimb 163 = .ok (.i2l, 1) := by decide +kernel
theorem dX3_quotientLimb_164 : decode cX3_quotientLimb 164 = .ok (.lmul, 1) := by decide +kernel
theorem dX3_quotientLimb_165 : decode cX3_quotientLimb 165 = .ok (.lload 13, 2) := by decide +kernel
theorem dX3_quotientLimb_167 : decode cX3_quotientLimb 167 = .ok (.ladd, 1) := by decide +kernel
theorem dX3_quotientLimb_168 : decode cX3_quotientLimb 168 = .ok (.lstore 16, 2) := by decide +kernel
theorem dX3_quotientLimb_170 : decode cX3_quotientLimb 170 = .ok (.lload 16, 2) := by decide +kernel
theorem dX3_quotientLimb_172 : decode cX3_quotientLimb 172 = .ok (.ldc2_w 45, 3) := by decide +kernel
theorem dX3_quotientLimb_175 : decode cX3_quotientLimb 175 = .ok (.ldiv, 1) := by decide +kernel
theorem dX3_quotientLimb_176 : decode cX3_quotientLimb 176 = .ok (.lstore 13, 2) := by decide +kernel
theorem dX3_quotientLimb_178 : decode cX3_quotientLimb 178 = .ok (.aload 4, 2) := by decide +kernel
theorem dX3_quotientLimb_180 : decode cX3_quotientLimb 180 = .ok (.iload_n 1, 1) := by decide +kernel
theorem dX3_quotientLimb_181 : decode cX3_quotientLimb 181 = .ok (.iload 15, 2) := by decide +kernel
theorem dX3_quotientLimb_183 : decode cX3_quotientLimb 183 = .ok (.iadd, 1) := by decide +kernel
theorem dX3_quotientLimb_184 : decode cX3_quotientLimb 184 = .ok (.iaload, 1) := by decide +kernel
theorem dX3_quotientLimb_185 : decode cX3_quotientLimb 185 = .ok (.lload 16, 2) := by decide +kernel
theorem dX3_quotientLimb_187 : decode cX3_quotientLimb 187 = .ok (.lload 13, 2) := by decide +kernel
theorem dX3_quotientLimb_189 : decode cX3_quotientLimb 189 = .ok (.ldc2_w 45, 3) := by decide +kernel
theorem dX3_quotientLimb_192 : decode cX3_quotientLimb 192 = .ok (.lmul, 1) := by decide +kernel
theorem dX3_quotientLimb_193 : decode cX3_quotientLimb 193 = .ok (.lsub, 1) := by decide +kernel
theorem dX3_quotientLimb_194 : decode cX3_quotientLimb 194 = .ok (.l2i, 1) := by decide +kernel
theorem dX3_quotientLimb_195 : decode cX3_quotientLimb 195 = .ok (.isub, 1) := by decide +kernel
theorem dX3_quotientLimb_196 : decode cX3_quotientLimb 196 = .ok (.istore 18, 2) := by decide +kernel
theorem dX3_quotientLimb_198 : decode cX3_quotientLimb 198 = .ok (.iload 18, 2) := by decide +kernel
theorem dX3_quotientLimb_200 : decode cX3_quotientLimb 200 = .ok (.ifCond .ge 16, 3) := by decide +kernel
theorem dX3_quotientLimb_203 : decode cX3_quotientLimb 203 = .ok (.iload 18, 2) := by decide +kernel
theorem dX3_quotientLimb_205 : decode cX3_quotientLimb 205 = .ok (.ldc 71, 2) := by decide +kernel
theorem dX3_quotientLimb_207 : decode cX3_quotientLimb 207 = .ok (.iadd, 1) := by decide +kernel
theorem dX3_quotientLimb_208 : decode cX3_quotientLimb 208 = .ok (.istore 18, 2) := by decide +kernel
theorem dX3_quotientLimb_210 : decode cX3_quotientLimb 210 = .ok (.lload 13, 2) := by decide +kernel
theorem dX3_quotientLimb_212 : decode cX3_quotientLimb 212 = .ok (.lconst 1, 1) := by decide +kernel
theorem dX3_quotientLimb_213 : decode cX3_quotientLimb 213 = .ok (.ladd, 1) := by decide +kernel
theorem dX3_quotientLimb_214 : decode cX3_quotientLimb 214 = .ok (.lstore 13, 2) := by decide +kernel
theorem dX3_quotientLimb_216 : decode cX3_quotientLimb 216 = .ok (.aload 4, 2) := by decide +kernel
theorem dX3_quotientLimb_218 : decode cX3_quotientLimb 218 = .ok (.iload_n 1, 1) := by decide +kernel
theorem dX3_quotientLimb_219 : decode cX3_quotientLimb 219 = .ok (.iload 15, 2) := by decide +kernel
theorem dX3_quotientLimb_221 : decode cX3_quotientLimb 221 = .ok (.iadd, 1) := by decide +kernel
theorem dX3_quotientLimb_222 : decode cX3_quotientLimb 222 = .ok (.iload 18, 2) := by decide +kernel
theorem dX3_quotientLimb_224 : decode cX3_quotientLimb 224 = .ok (.iastore, 1) := by decide +kernel
theorem dX3_quotientLimb_225 : decode cX3_quotientLimb 225 = .ok (.iinc 15 1, 3) := by decide +kernel
theorem dX3_quotientLimb_228 : decode cX3_quotientLimb 228 = .ok (.goto (-80), 3) := by decide +kernel
theorem dX3_quotientLimb_231 : decode cX3_quotientLimb 231 = .ok (.aload 4, 2) := by decide +kernel
theorem dX3_quotientLimb_233 : decode cX3_quotientLimb 233 = .ok (.iload_n 1, 1) := by decide +kernel
theorem dX3_quotientLimb_234 : decode cX3_quotientLimb 234 = .ok (.iload_n 3, 1) := by decide +kernel
theorem dX3_quotientLimb_235 : decode cX3_quotientLimb 235 = .ok (.iadd, 1) := by decide +kernel
theorem dX3_quotientLimb_236 : decode cX3_quotientLimb 236 = .ok (.aload 4, 2) := by decide +kernel
theorem dX3_quotientLimb_238 : decode cX3_quotientLimb 238 = .ok (.iload_n 1, 1) := by decide +kernel
theorem dX3_quotientLimb_239 : decode cX3_quotientLimb 239 = .ok (.iload_n 3, 1) := by decide +kernel
theorem dX3_quotientLimb_240 : decode cX3_quotientLimb 240 = .ok (.iadd, 1) := by decide +kernel
theorem dX3_quotientLimb_241 : decode cX3_quotientLimb 241 = .ok (.iaload, 1) := by decide +kernel
theorem dX3_quotientLimb_242 : decode cX3_quotientLimb 242 = .ok (.i2l, 1) := by decide +kernel
theorem dX3_quotientLimb_243 : decode cX3_quotientLimb 243 = .ok (.lload 13, 2) := by decide +kernel
theorem dX3_quotientLimb_245 : decode cX3_quotientLimb 245 = .ok (.lsub, 1) := by decide +kernel
theorem dX3_quotientLimb_246 : decode cX3_quotientLimb 246 = .ok (.l2i, 1) := by decide +kernel
theorem dX3_quotientLimb_247 : decode cX3_quotientLimb 247 = .ok (.iastore, 1) := by decide +kernel
theorem dX3_quotientLimb_248 : decode cX3_quotientLimb 248 = .ok (.aload 4, 2) := by decide +kernel
theorem dX3_quotientLimb_250 : decode cX3_quotientLimb 250 = .ok (.iload_n 1, 1) := by decide +kernel
theorem dX3_quotientLimb_251 : decode cX3_quotientLimb 251 = .ok (.iload_n 3, 1) := by decide +kernel
theorem dX3_quotientLimb_252 : decode cX3_quotientLimb 252 = .ok (.iadd, 1) := by decide +kernel
theorem dX3_quotientLimb_253 : decode cX3_quotientLimb 253 = .ok (.iaload, 1) := by decide +kernel
theorem dX3_quotientLimb_254 : decode cX3_quotientLimb 254 = .ok (.ifCond .lt 7, 3) := by decide +kernel
theorem dX3_quotientLimb_257 : decode cX3_quotientLimb 257 = .ok (.lload 9, 2) := by decide +kernel
theorem dX3_quotientLimb_259 : decode cX3_quotientLimb 259 = .ok (.l2i, 1) := by decide +kernel
theorem dX3_quotientLimb_260 : decode cX3_quotientLimb 260 = .ok (.ireturn, 1) := by decide +kernel
theorem dX3_quotientLimb_261 : decode cX3_quotientLimb 261 = .ok (.iconst 0, 1) := by decide +kernel
theorem dX3_quotientLimb_262 : decode cX3_quotientLimb 262 = .ok (.istore 15, 2) := by decide +kernel
theorem dX3_quotientLimb_264 : decode cX3_quotientLimb 264 = .ok (.iconst 0, 1) := by decide +kernel
theorem dX3_quotientLimb_265 : decode cX3_quotientLimb 265 = .ok (.istore 16, 2) := by decide +kernel
theorem dX3_quotientLimb_267 : decode cX3_quotientLimb 267 = .ok (.iload 16, 2) := by decide +kernel
theorem dX3_quotientLimb_269 : decode cX3_quotientLimb 269 = .ok (.iload_n 3, 1) := by decide +kernel
theorem dX3_quotientLimb_270 : decode cX3_quotientLimb 270 = .ok (.if_icmp .ge 65, 3) := by decide +kernel
theorem dX3_quotientLimb_273 : decode cX3_quotientLimb 273 = .ok (.aload 4, 2) := by decide +kernel
theorem dX3_quotientLimb_275 : decode cX3_quotientLimb 275 = .ok (.iload_n 1, 1) := by decide +kernel
theorem dX3_quotientLimb_276 : decode cX3_quotientLimb 276 = .ok (.iload 16, 2) := by decide +kernel
theorem dX3_quotientLimb_278 : decode cX3_quotientLimb 278 = .ok (.iadd, 1) := by decide +kernel
theorem dX3_quotientLimb_279 : decode cX3_quotientLimb 279 = .ok (.iaload, 1) := by decide +kernel
theorem dX3_quotientLimb_280 : decode cX3_quotientLimb 280 = .ok (.aload 4, 2) := by decide +kernel
theorem dX3_quotientLimb_282 : decode cX3_quotientLimb 282 = .ok (.iload_n 2, 1) := by decide +kernel
theorem dX3_quotientLimb_283 : decode cX3_quotientLimb 283 = .ok (.iload 16, 2) := by decide +kernel
theorem dX3_quotientLimb_285 : decode cX3_quotientLimb 285 = .ok (.iadd, 1) := by decide +kernel
theorem dX3_quotientLimb_286 : decode cX3_quotientLimb 286 = .ok (.iaload, 1) := by decide +kernel
theorem dX3_quotientLimb_287 : decode cX3_quotientLimb 287 = .ok (.iadd, 1) := by decide +kernel
theorem dX3_quotientLimb_288 : decode cX3_quotientLimb 288 = .ok (.iload 15, 2) := by decide +kernel
theorem dX3_quotientLimb_290 : decode cX3_quotientLimb 290 = .ok (.iadd, 1) := by decide +kernel
theorem dX3_quotientLimb_291 : decode cX3_quotientLimb 291 = .ok (.istore 17, 2) := by decide +kernel
theorem dX3_quotientLimb_293 : decode cX3_quotientLimb 293 = .ok (.iload 17, 2) := by decide +kernel
theorem dX3_quotientLimb_295 : decode cX3_quotientLimb 295 = .ok (.ldc 71, 2) := by decide +kernel
theorem dX3_quotientLimb_297 : decode cX3_quotientLimb 297 = .ok (.if_icmp .lt 7, 3) := by decide +kernel
theorem dX3_quotientLimb_300 : decode cX3_quotientLimb 300 = .ok (.iconst 1, 1) := by decide +kernel
theorem dX3_quotientLimb_301 : decode cX3_quotientLimb 301 = .ok (.goto 4, 3) := by decide +kernel
theorem dX3_quotientLimb_304 : decode cX3_quotientLimb 304 = .ok (.iconst 0, 1) := by decide +kernel
theorem dX3_quotientLimb_305 : decode cX3_quotientLimb 305 = .ok (.istore 15, 2) := by decide +kernel
theorem dX3_quotientLimb_307 : decode cX3_quotientLimb 307 = .ok (.aload 4, 2) := by decide +kernel
theorem dX3_quotientLimb_309 : decode cX3_quotientLimb 309 = .ok (.iload_n 1, 1) := by decide +kernel
theorem dX3_quotientLimb_310 : decode cX3_quotientLimb 310 = .ok (.iload 16, 2) := by decide +kernel
theorem dX3_quotientLimb_312 : decode cX3_quotientLimb 312 = .ok (.iadd, 1) := by decide +kernel
theorem dX3_quotientLimb_313 : decode cX3_quotientLimb 313 = .ok (.iload 15, 2) := by decide +kernel
theorem dX3_quotientLimb_315 : decode cX3_quotientLimb 315 = .ok (.ifCond .ne 8, 3) := by decide +kernel
theorem dX3_quotientLimb_318 : decode cX3_quotientLimb 318 = .ok (.iload 17, 2) := by decide +kernel
theorem dX3_quotientLimb_320 : decode cX3_quotientLimb 320 = .ok (.goto 8, 3) := by decide +kernel
theorem dX3_quotientLimb_323 : decode cX3_quotientLimb 323 = .ok (.iload 17, 2) := by decide +kernel
theorem dX3_quotientLimb_325 : decode cX3_quotientLimb 325 = .ok (.ldc 71, 2) := by decide +kernel
theorem dX3_quotientLimb_327 : decode cX3_quotientLimb 327 = .ok (.isub, 1) := by decide +kernel
theorem dX3_quotientLimb_328 : decode cX3_quotientLimb 328 = .ok (.iastore, 1) := by decide +kernel
theorem dX3_quotientLimb_329 : decode cX3_quotientLimb 329 = .ok (.iinc 16 1, 3) := by decide +kernel
theorem dX3_quotientLimb_332 : decode cX3_quotientLimb 332 = .ok (.goto (-65), 3) := by decide +kernel
theorem dX3_quotientLimb_335 : decode cX3_quotientLimb 335 = .ok (.aload 4, 2) := by decide +kernel
theorem dX3_quotientLimb_337 : decode cX3_quotientLimb 337 = .ok (.iload_n 1, 1) := by decide +kernel
theorem dX3_quotientLimb_338 : decode cX3_quotientLimb 338 = .ok (.iload_n 3, 1) := by decide +kernel
theorem dX3_quotientLimb_339 : decode cX3_quotientLimb 339 = .ok (.iadd, 1) := by decide +kernel
theorem dX3_quotientLimb_340 : decode cX3_quotientLimb 340 = .ok (.dup2, 1) := by decide +kernel
theorem dX3_quotientLimb_341 : decode cX3_quotientLimb 341 = .ok (.iaload, 1) := by decide +kernel
theorem dX3_quotientLimb_342 : decode cX3_quotientLimb 342 = .ok (.iload 15, 2) := by decide +kernel
theorem dX3_quotientLimb_344 : decode cX3_quotientLimb 344 = .ok (.iadd, 1) := by decide +kernel
theorem dX3_quotientLimb_345 : decode cX3_quotientLimb 345 = .ok (.iastore, 1) := by decide +kernel
theorem dX3_quotientLimb_346 : decode cX3_quotientLimb 346 = .ok (.lload 9, 2) := by decide +kernel
theorem dX3_quotientLimb_348 : decode cX3_quotientLimb 348 = .ok (.lconst 1, 1) := by decide +kernel
theorem dX3_quotientLimb_349 : decode cX3_quotientLimb 349 = .ok (.lsub, 1) := by decide +kernel
theorem dX3_quotientLimb_350 : decode cX3_quotientLimb 350 = .ok (.l2i, 1) := by decide +kernel
theorem dX3_quotientLimb_351 : decode cX3_quotientLimb 351 = .ok (.ireturn, 1) := by decide +kernel
theorem dX3_divisor_0 : decode cX3_divisor 0 = .ok (.aload_n 0, 1) := by decide +kernel
theorem dX3_divisor_1 : decode cX3_divisor 1 = .ok (.iload_n 1, 1) := by decide +kernel
theorem dX3_divisor_2 : decode cX3_divisor 2 = .ok (.iload_n 2, 1) := by decide +kernel
theorem dX3_divisor_3 : decode cX3_divisor 3 = .ok (.invokevirtual 64, 3) := by decide +kernel
theorem dX3_divisor_6 : decode cX3_divisor 6 = .ok (.ifCond .ge 7, 3) := by decide +kernel
theorem dX3_divisor_9 : decode cX3_divisor 9 = .ok (.iconst 1, 1) := by decide +kernel
theorem dX3_divisor_10 : decode cX3_divisor 10 = .ok (.goto 4, 3) := by decide +kernel
theorem dX3_divisor_13 : decode cX3_divisor 13 = .ok (.iconst 0, 1) := by decide +kernel
theorem dX3_divisor_14 : decode cX3_divisor 14 = .ok (.istore_n 3, 1) := by decide +kernel
theorem dX3_divisor_15 : decode cX3_divisor 15 = .ok (.aload_n 0, 1) := by decide +kernel
theorem dX3_divisor_16 : decode cX3_divisor 16 = .ok (.getfield 11, 3) := by decide +kernel
theorem dX3_divisor_19 : decode cX3_divisor 19 = .ok (.iload_n 1, 1) := by decide +kernel
theorem dX3_divisor_20 : decode cX3_divisor 20 = .ok (.iaload, 1) := by decide +kernel
theorem dX3_divisor_21 : decode cX3_divisor 21 = .ok (.iconst 1, 1) := by decide +kernel
theorem dX3_divisor_22 : decode cX3_divisor 22 = .ok (.ishr, 1) := by decide +kernel
theorem dX3_divisor_23 : decode cX3_divisor 23 = .ok (.aload_n 0, 1) := by decide +kernel
theorem dX3_divisor_24 : decode cX3_divisor 24 = .ok (.getfield 11, 3) := by decide +kernel
theorem dX3_divisor_27 : decode cX3_divisor 27 = .ok (.iload_n 2, 1) := by decide +kernel
theorem dX3_divisor_28 : decode cX3_divisor 28 = .ok (.iaload, 1) := by decide +kernel
theorem dX3_divisor_29 : decode cX3_divisor 29 = .ok (.iconst 1, 1) := by decide +kernel
theorem dX3_divisor_30 : decode cX3_divisor 30 = .ok (.ishr, 1) := by decide +kernel
theorem dX3_divisor_31 : decode cX3_divisor 31 = .ok (.invokestatic 29, 3) := by decide +kernel
theorem dX3_divisor_34 : decode cX3_divisor 34 = .ok (.istore 4, 2) := by decide +kernel
theorem dX3_divisor_36 : decode cX3_divisor 36 = .ok (.aload_n 0, 1) := by decide +kernel
theorem dX3_divisor_37 : decode cX3_divisor 37 = .ok (.iconst 2, 1) := by decide +kernel
theorem dX3_divisor_38 : decode cX3_divisor 38 = .ok (.iload 4, 2) := by decide +kernel
theorem dX3_divisor_40 : decode cX3_divisor 40 = .ok (.imul, 1) := by decide +kernel
theorem dX3_divisor_41 : decode cX3_divisor 41 = .ok (.bipush 6, 2) := by decide +kernel
theorem dX3_divisor_43 : decode cX3_divisor 43 = .ok (.iadd, 1) := by decide +kernel
theorem dX3_divisor_44 : decode cX3_divisor 44 = .ok (.invokevirtual 41, 3) := by decide +kernel
theorem dX3_divisor_47 : decode cX3_divisor 47 = .ok (.aload_n 0, 1) := by decide +kernel
theorem dX3_divisor_48 : decode cX3_divisor 48 = .ok (.getfield 15, 3) := by decide +kernel
theorem dX3_divisor_51 : decode cX3_divisor 51 = .ok (.istore 5, 2) := by decide +kernel
theorem dX3_divisor_53 : decode cX3_divisor 53 = .ok (.iload 5, 2) := by decide +kernel
theorem dX3_divisor_55 : decode cX3_divisor 55 = .ok (.istore 6, 2) := by decide +kernel
theorem dX3_divisor_57 : decode cX3_divisor 57 = .ok (.iload 5, 2) := by decide +kernel
theorem dX3_divisor_59 : decode cX3_divisor 59 = .ok (.iload 4, 2) := by decide +kernel
theorem dX3_divisor_61 : decode cX3_divisor 61 = .ok (.iadd, 1) := by decide +kernel
theorem dX3_divisor_62 : decode cX3_divisor 62 = .ok (.iconst 2, 1) := by decide +kernel
theorem dX3_divisor_63 : decode cX3_divisor 63 = .ok (.iadd, 1) := by decide +kernel
theorem dX3_divisor_64 : decode cX3_divisor 64 = .ok (.istore 7, 2) := by decide +kernel
theorem dX3_divisor_66 : decode cX3_divisor 66 = .ok (.aload_n 0, 1) := by decide +kernel
theorem dX3_divisor_67 : decode cX3_divisor 67 = .ok (.iload_n 3, 1) := by decide +kernel
theorem dX3_divisor_68 : decode cX3_divisor 68 = .ok (.ifCond .eq 7, 3) := by decide +kernel
theorem dX3_divisor_71 : decode cX3_divisor 71 = .ok (.iload_n 2, 1) := by decide +kernel
theorem dX3_divisor_72 : decode cX3_divisor 72 = .ok (.goto 4, 3) := by decide +kernel
theorem dX3_divisor_75 : decode cX3_divisor 75 = .ok (.iload_n 1, 1) := by decide +kernel
theorem dX3_divisor_76 : decode cX3_divisor 76 = .ok (.iload 6, 2) := by decide +kernel
theorem dX3_divisor_78 : decode cX3_divisor 78 = .ok (.invokevirtual 113, 3) := by decide +kernel
theorem dX3_divisor_81 : decode cX3_divisor 81 = .ok (.aload_n 0, 1) := by decide +kernel
theorem dX3_divisor_82 : decode cX3_divisor 82 = .ok (.iload_n 3, 1) := by decide +kernel
theorem dX3_divisor_83 : decode cX3_divisor 83 = .ok (.ifCond .eq 7, 3) := by decide +kernel
theorem dX3_divisor_86 : decode cX3_divisor 86 = .ok (.iload_n 1, 1) := by decide +kernel
theorem dX3_divisor_87 : decode cX3_divisor 87 = .ok (.goto 4, 3) := by decide +kernel
theorem dX3_divisor_90 : decode cX3_divisor 90 = .ok (.iload_n 2, 1) := by decide +kernel
theorem dX3_divisor_91 : decode cX3_divisor 91 = .ok (.iload 7, 2) := by decide +kernel
theorem dX3_divisor_93 : decode cX3_divisor 93 = .ok (.invokevirtual 113, 3) := by decide +kernel
theorem dX3_divisor_96 : decode cX3_divisor 96 = .ok (.aload_n 0, 1) := by decide +kernel
theorem dX3_divisor_97 : decode cX3_divisor 97 = .ok (.iload 7, 2) := by decide +kernel
theorem dX3_divisor_99 : decode cX3_divisor 99 = .ok (.iload 4, 2) := by decide +kernel
theorem dX3_divisor_101 : decode cX3_divisor 101 = .ok (.iadd, 1) := by decide +kernel
theorem dX3_divisor_102 : decode cX3_divisor 102 = .ok (.iconst 2, 1) := by decide +kernel
theorem dX3_divisor_103 : decode cX3_divisor 103 = .ok (.iadd, 1) := by decide +kernel
theorem dX3_divisor_104 : decode cX3_divisor 104 = .ok (.putfield 15, 3) := by decide +kernel
theorem dX3_divisor_107 : decode cX3_divisor 107 = .ok (.aload_n 0, 1) := by decide +kernel
theorem dX3_divisor_108 : decode cX3_divisor 108 = .ok (.getfield 15, 3) := by decide +kernel
theorem dX3_divisor_111 : decode cX3_divisor 111 = .ok (.istore 8, 2) := by decide +kernel
theorem dX3_divisor_113 : decode cX3_divisor 113 = .ok (.iconst 0, 1) := by decide +kernel
theorem dX3_divisor_114 : decode cX3_divisor 114 = .ok (.istore 9, 2) := by decide +kernel
theorem dX3_divisor_116 : decode cX3_divisor 116 = .ok (.iload 9, 2) := by decide +kernel
theorem dX3_divisor_118 : decode cX3_divisor 118 = .ok (.bipush 44, 2) := by decide +kernel
theorem dX3_divisor_120 : decode cX3_divisor 120 = .ok (.iload 4, 2) := by decide +kernel
theorem dX3_divisor_122 : decode cX3_divisor 122 = .ok (.imul, 1) := by decide +kernel
theorem dX3_divisor_123 : decode cX3_divisor 123 = .ok (.bipush 8, 2) := by decide +kernel
theorem dX3_divisor_125 : decode cX3_divisor 125 = .ok (.iadd, 1) := by decide +kernel
theorem dX3_divisor_126 : decode cX3_divisor 126 = .ok (.if_icmp .ge 103, 3) := by decide +kernel
theorem dX3_divisor_129 : decode cX3_divisor 129 = .ok (.aload_n 0, 1) := by decide +kernel
theorem dX3_divisor_130 : decode cX3_divisor 130 = .ok (.getfield 11, 3) := by decide +kernel
theorem dX3_divisor_133 : decode cX3_divisor 133 = .ok (.iload 7, 2) := by decide +kernel
theorem dX3_divisor_135 : decode cX3_divisor 135 = .ok (.iaload, 1) := by decide +kernel
theorem dX3_divisor_136 : decode cX3_divisor 136 = .ok (.ifCond .eq 93, 3) := by decide +kernel
theorem dX3_divisor_139 : decode cX3_divisor 139 = .ok (.aload_n 0, 1) := by decide +kernel
theorem dX3_divisor_140 : decode cX3_divisor 140 = .ok (.getfield 11, 3) := by decide +kernel
theorem dX3_divisor_143 : decode cX3_divisor 143 = .ok (.iload 6, 2) := by decide +kernel
theorem dX3_divisor_145 : decode cX3_divisor 145 = .ok (.iaload, 1) := by decide +kernel
theorem dX3_divisor_146 : decode cX3_divisor 146 = .ok (.iconst 4, 1) := by decide +kernel
theorem dX3_divisor_147 : decode cX3_divisor 147 = .ok (.if_icmp .le 82, 3) := by decide +kernel
theorem dX3_divisor_150 : decode cX3_divisor 150 = .ok (.aload_n 0, 1) := by decide +kernel
theorem dX3_divisor_151 : decode cX3_divisor 151 = .ok (.iload 6, 2) := by decide +kernel
theorem dX3_divisor_153 : decode cX3_divisor 153 = .ok (.iload 7, 2) := by decide +kernel
theorem dX3_divisor_155 : decode cX3_divisor 155 = .ok (.invokevirtual 117, 3) := by decide +kernel
theorem dX3_divisor_158 : decode cX3_divisor 158 = .ok (.ifCond .ne 65, 3) := by decide +kernel
theorem dX3_divisor_161 : decode cX3_divisor 161 = .ok (.aload_n 0, 1) := by decide +kernel
theorem dX3_divisor_162 : decode cX3_divisor 162 = .ok (.aload_n 0, 1) := by decide +kernel
theorem dX3_divisor_163 : decode cX3_divisor 163 = .ok (.getfield 11, 3) := by decide +kernel
theorem dX3_divisor_166 : decode cX3_divisor 166 = .ok (.iload 7, 2) := by decide +kernel
theorem dX3_divisor_168 : decode cX3_divisor 168 = .ok (.iaload, 1) := by decide +kernel
theorem dX3_divisor_169 : decode cX3_divisor 169 = .ok (.iconst 2, 1) := by decide +kernel
theorem dX3_divisor_170 : decode cX3_divisor 170 = .ok (.if_icmp .ne 14, 3) := by decide +kernel
theorem dX3_divisor_173 : decode cX3_divisor 173 = .ok (.aload_n 0, 1) := by decide +kernel
theorem dX3_divisor_174 : decode cX3_divisor 174 = .ok (.iload 6, 2) := by decide +kernel
theorem dX3_divisor_176 : decode cX3_divisor 176 = .ok (.iload 7, 2) := by decide +kernel
theorem dX3_divisor_178 : decode cX3_divisor 178 = .ok (.invokevirtual 86, 3) := by decide +kernel
theorem dX3_divisor_181 : decode cX3_divisor 181 = .ok (.goto 11, 3) := by decide +kernel
theorem dX3_divisor_184 : decode cX3_divisor 184 = .ok (.aload_n 0, 1) := by decide +kernel
theorem dX3_divisor_185 : decode cX3_divisor 185 = .ok (.iload 6, 2) := by decide +kernel
theorem dX3_divisor_187 : decode cX3_divisor 187 = .ok (.iload 7, 2) := by decide +kernel
theorem dX3_divisor_189 : decode cX3_divisor 189 = .ok (.invokevirtual 89, 3) := by decide +kernel
theorem dX3_divisor_192 : decode cX3_divisor 192 = .ok (.invokevirtual 103, 3) := by decide +kernel
theorem dX3_divisor_195 : decode cX3_divisor 195 = .ok (.istore 10, 2) := by decide +kernel
theorem dX3_divisor_197 : decode cX3_divisor 197 = .ok (.aload_n 0, 1) := by decide +kernel
theorem dX3_divisor_198 : decode cX3_divisor 198 = .ok (.iload 10, 2) := by decide +kernel
theorem dX3_divisor_200 : decode cX3_divisor 200 = .ok (.iload 6, 2) := by decide +kernel
theorem dX3_divisor_202 : decode cX3_divisor 202 = .ok (.invokevirtual 113, 3) := by decide +kernel
theorem dX3_divisor_205 : decode cX3_divisor 205 = .ok (.iload 6, 2) := by decide +kernel
theorem dX3_divisor_207 : decode cX3_divisor 207 = .ok (.istore 11, 2) := by decide +kernel
theorem dX3_divisor_209 : decode cX3_divisor 209 = .ok (.iload 7, 2) := by decide +kernel
theorem dX3_divisor_211 : decode cX3_divisor 211 = .ok (.istore 6, 2) := by decide +kernel
theorem dX3_divisor_213 : decode cX3_divisor 213 = .ok (.iload 11, 2) := by decide +kernel
theorem dX3_divisor_215 : decode cX3_divisor 215 = .ok (.istore 7, 2) := by decide +kernel
theorem dX3_divisor_217 : decode cX3_divisor 217 = .ok (.aload_n 0, 1) := by decide +kernel
theorem dX3_divisor_218 : decode cX3_divisor 218 = .ok (.iload 8, 2) := by decide +kernel
theorem dX3_divisor_220 : decode cX3_divisor 220 = .ok (.putfield 15, 3) := by decide +kernel
theorem dX3_divisor_223 : decode cX3_divisor 223 = .ok (.iinc 9 1, 3) := by decide +kernel
theorem dX3_divisor_226 : decode cX3_divisor 226 = .ok (.goto (-110), 3) := by decide +kernel
theorem dX3_divisor_229 : decode cX3_divisor 229 = .ok (.aload_n 0, 1) := by decide +kernel
theorem dX3_divisor_230 : decode cX3_divisor 230 = .ok (.getfield 11, 3) := by decide +kernel
theorem dX3_divisor_233 : decode cX3_divisor 233 = .ok (.iload 7, 2) := by decide +kernel
theorem dX3_divisor_235 : decode cX3_divisor 235 = .ok (.iaload, 1) := by decide +kernel
theorem dX3_divisor_236 : decode cX3_divisor 236 = .ok (.ifCond .eq 11, 3) := by decide +kernel
theorem dX3_divisor_239 : decode cX3_divisor 239 = .ok (.aload_n 0, 1) := by decide +kernel
theorem dX3_divisor_240 : decode cX3_divisor 240 = .ok (.iload 6, 2) := by decide +kernel
theorem dX3_divisor_242 : decode cX3_divisor 242 = .ok (.iload 7, 2) := by decide +kernel
theorem dX3_divisor_244 : decode cX3_divisor 244 = .ok (.invokevirtual 121, 3) := by decide +kernel
theorem dX3_divisor_247 : decode cX3_divisor 247 = .ok (.aload_n 0, 1) := by decide +kernel
theorem dX3_divisor_248 : decode cX3_divisor 248 = .ok (.aload_n 0, 1) := by decide +kernel
theorem dX3_divisor_249 : decode cX3_divisor 249 = .ok (.iload 6, 2) := by decide +kernel
theorem dX3_divisor_251 : decode cX3_divisor 251 = .ok (.invokevirtual 103, 3) := by decide +kernel
theorem dX3_divisor_254 : decode cX3_divisor 254 = .ok (.putfield 15, 3) := by decide +kernel
theorem dX3_divisor_257 : decode cX3_divisor 257 = .ok (.aload_n 0, 1) := by decide +kernel
theorem dX3_divisor_258 : decode cX3_divisor 258 = .ok (.iload 5, 2) := by decide +kernel
theorem dX3_divisor_260 : decode cX3_divisor 260 = .ok (.iload 6, 2) := by decide +kernel
theorem dX3_divisor_262 : decode cX3_divisor 262 = .ok (.invokevirtual 110, 3) := by decide +kernel
theorem dX3_divisor_265 : decode cX3_divisor 265 = .ok (.ireturn, 1) := by decide +kernel
theorem dX3_place_0 : decode cX3_place 0 = .ok (.aload_n 0, 1) := by decide +kernel
theorem dX3_place_1 : decode cX3_place 1 = .ok (.getfield 11, 3) := by decide +kernel
theorem dX3_place_4 : decode cX3_place 4 = .ok (.iload_n 1, 1) := by decide +kernel
theorem dX3_place_5 : decode cX3_place 5 = .ok (.iaload, 1) := by decide +kernel
theorem dX3_place_6 : decode cX3_place 6 = .ok (.iconst 1, 1) := by decide +kernel
theorem dX3_place_7 : decode cX3_place 7 = .ok (.ishr, 1) := by decide +kernel
theorem dX3_place_8 : decode cX3_place 8 = .ok (.istore_n 3, 1) := by decide +kernel
theorem dX3_place_9 : decode cX3_place 9 = .ok (.aload_n 0, 1) := by decide +kernel
theorem dX3_place_10 : decode cX3_place 10 = .ok (.getfield 11, 3) := by decide +kernel
theorem dX3_place_13 : decode cX3_place 13 = .ok (.iload_n 1, 1) := by decide +kernel
theorem dX3_place_14 : decode cX3_place 14 = .ok (.iconst 1, 1) := by decide +kernel
theorem dX3_place_15 : decode cX3_place 15 = .ok (.iadd, 1) := by decide +kernel
theorem dX3_place_16 : decode cX3_place 16 = .ok (.aload_n 0, 1) := by decide +kernel
theorem dX3_place_17 : decode cX3_place 17 = .ok (.getfield 11, 3) := by decide +kernel
theorem dX3_place_20 : decode cX3_place 20 = .ok (.iload_n 2, 1) := by decide +kernel
theorem dX3_place_21 : decode cX3_place 21 = .ok (.iconst 1, 1) := by decide +kernel
theorem dX3_place_22 : decode cX3_place 22 = .ok (.iadd, 1) := by decide +kernel
theorem dX3_place_23 : decode cX3_place 23 = .ok (.iload_n 3, 1) := by decide +kernel
theorem dX3_place_24 : decode cX3_place 24 = .ok (.invokestatic 58, 3) := by decide +kernel
theorem dX3_place_27 : decode cX3_place 27 = .ok (.aload_n 0, 1) := by decide +kernel
theorem dX3_place_28 : decode cX3_place 28 = .ok (.getfield 11, 3) := by decide +kernel
theorem dX3_place_31 : decode cX3_place 31 = .ok (.iload_n 2, 1) := by decide +kernel
theorem dX3_place_32 : decode cX3_place 32 = .ok (.iconst 2, 1) := by decide +kernel
theorem dX3_place_33 : decode cX3_place 33 = .ok (.iload_n 3, 1) := by decide +kernel
theorem dX3_place_34 : decode cX3_place 34 = .ok (.imul, 1) := by decide +kernel
theorem dX3_place_35 : decode cX3_place 35 = .ok (.iastore, 1) := by decide +kernel
theorem dX3_place_36 : decode cX3_place 36 = .ok (.return_, 1) := by decide +kernel
theorem dX3_smallDivisor_0 : decode cX3_smallDivisor 0 = .ok (.aload_n 0, 1) := by decide +kernel
theorem dX3_smallDivisor_1 : decode cX3_smallDivisor 1 = .ok (.iload_n 1, 1) := by decide +kernel
theorem dX3_smallDivisor_2 : decode cX3_smallDivisor 2 = .ok (.invokevirtual 124, 3) := by decide +kernel
theorem dX3_smallDivisor_5 : decode cX3_smallDivisor 5 = .ok (.lstore_n 3, 1) := by decide +kernel
theorem dX3_smallDivisor_6 : decode cX3_smallDivisor 6 = .ok (.aload_n 0, 1) := by decide +kernel
theorem dX3_smallDivisor_7 : decode cX3_smallDivisor 7 = .ok (.iload_n 2, 1) := by decide +kernel
theorem dX3_smallDivisor_8 : decode cX3_smallDivisor 8 = .ok (.invokevirtual 124, 3) := by decide +kernel
theorem dX3_smallDivisor_11 : decode cX3_smallDivisor 11 = .ok (.lstore 5, 2) := by decide +kernel
theorem dX3_smallDivisor_13 : decode cX3_smallDivisor 13 = .ok (.iconst 0, 1) := by decide +kernel
theorem dX3_smallDivisor_14 : decode cX3_smallDivisor 14 = .ok (.istore 7, 2) := by decide +kernel
theorem dX3_smallDivisor_16 : decode cX3_smallDivisor 16 = .ok (.iload 7, 2) := by decide +kernel
theorem dX3_smallDivisor_18 : decode cX3_smallDivisor 18 = .ok (.bipush 100, 2) := by decide +kernel
theorem dX3_smallDivisor_20 : decode cX3_smallDivisor 20 = .ok (.if_icmp .ge 29, 3) := by decide +kernel
theorem dX3_smallDivisor_23 : decode cX3_smallDivisor 23 = .ok (.lload 5, 2) := by decide +kernel
theorem dX3_smallDivisor_25 : decode cX3_smallDivisor 25 = .ok (.lconst 0, 1) := by decide +kernel
theorem dX3_smallDivisor_26 : decode cX3_smallDivisor 26 = .ok (.lcmp, 1) := by decide +kernel
theorem dX3_smallDivisor_27 : decode cX3_smallDivisor 27 = .ok (.ifCond .eq 22, 3) := by decide +kernel
theorem dX3_smallDivisor_30 : decode cX3_smallDivisor 30 = .ok (.lload_n 3, 1) := by decide +kernel
theorem dX3_smallDivisor_31 : decode cX3_smallDivisor 31 = .ok (.lload 5, 2) := by decide +kernel
theorem dX3_smallDivisor_33 : decode cX3_smallDivisor 33 = .ok (.lrem, 1) := by decide +kernel
theorem dX3_smallDivisor_34 : decode cX3_smallDivisor 34 = .ok (.lstore 8, 2) := by decide +kernel
theorem dX3_smallDivisor_36 : decode cX3_smallDivisor 36 = .ok (.lload 5, 2) := by decide +kernel
theorem dX3_smallDivisor_38 : decode cX3_smallDivisor 38 = .ok (.lstore_n 3, 1) := by decide +kernel
theorem dX3_smallDivisor_39 : decode cX3_smallDivisor 39 = .ok (.lload 8, 2) := by decide +kernel
theorem dX3_smallDivisor_41 : decode cX3_smallDivisor 41 = .ok (.lstore 5, 2) := by decide +kernel
theorem dX3_smallDivisor_43 : decode cX3_smallDivisor 43 = .ok (.iinc 7 1, 3) := by decide +kernel
theorem dX3_smallDivisor_46 : decode cX3_smallDivisor 46 = .ok (.goto (-30), 3) := by decide +kernel
theorem dX3_smallDivisor_49 : decode cX3_smallDivisor 49 = .ok (.aload_n 0, 1) := by decide +kernel
theorem dX3_smallDivisor_50 : decode cX3_smallDivisor 50 = .ok (.getfield 11, 3) := by decide +kernel
theorem dX3_smallDivisor_53 : decode cX3_smallDivisor 53 = .ok (.iload_n 1, 1) := by decide +kernel
theorem dX3_smallDivisor_54 : decode cX3_smallDivisor 54 = .ok (.iconst 1, 1) := by decide +kernel
theorem dX3_smallDivisor_55 : decode cX3_smallDivisor 55 = .ok (.iadd, 1) := by decide +kernel
theorem dX3_smallDivisor_56 : decode cX3_smallDivisor 56 = .ok (.lload_n 3, 1) := by decide +kernel
theorem dX3_smallDivisor_57 : decode cX3_smallDivisor 57 = .ok (.ldc2_w 45, 3) := by decide +kernel
theorem dX3_smallDivisor_60 : decode cX3_smallDivisor 60 = .ok (.lrem, 1) := by decide +kernel
theorem dX3_smallDivisor_61 : decode cX3_smallDivisor 61 = .ok (.l2i, 1) := by decide +kernel
theorem dX3_smallDivisor_62 : decode cX3_smallDivisor 62 = .ok (.iastore, 1) := by decide +kernel
theorem dX3_smallDivisor_63 : decode cX3_smallDivisor 63 = .ok (.aload_n 0, 1) := by decide +kernel
theorem dX3_smallDivisor_64 : decode cX3_smallDivisor 64 = .ok (.getfield 11, 3) := by decide +kernel
theorem dX3_smallDivisor_67 : decode cX3_smallDivisor 67 = .ok (.iload_n 1, 1) := by decide +kernel
theorem dX3_smallDivisor_68 : decode cX3_smallDivisor 68 = .ok (.iconst 2, 1) := by decide +kernel
theorem dX3_smallDivisor_69 : decode cX3_smallDivisor 69 = .ok (.iadd, 1) := by decide +kernel
theorem dX3_smallDivisor_70 : decode cX3_smallDivisor 70 = .ok (.lload_n 3, 1) := by decide +kernel
theorem dX3_smallDivisor_71 : decode cX3_smallDivisor 71 = .ok (.ldc2_w 45, 3) := by decide +kernel
theorem dX3_smallDivisor_74 : decode cX3_smallDivisor 74 = .ok (.ldiv, 1) := by decide +kernel
theorem dX3_smallDivisor_75 : decode cX3_smallDivisor 75 = .ok (.l2i, 1) := by decide +kernel
theorem dX3_smallDivisor_76 : decode cX3_smallDivisor 76 = .ok (.iastore, 1) := by decide +kernel
theorem dX3_smallDivisor_77 : decode cX3_smallDivisor 77 = .ok (.aload_n 0, 1) := by decide +kernel
theorem dX3_smallDivisor_78 : decode cX3_smallDivisor 78 = .ok (.getfield 11, 3) := by decide +kernel
theorem dX3_smallDivisor_81 : decode cX3_smallDivisor 81 = .ok (.iload_n 1, 1) := by decide +kernel
theorem dX3_smallDivisor_82 : decode cX3_smallDivisor 82 = .ok (.aload_n 0, 1) := by decide +kernel
theorem dX3_smallDivisor_83 : decode cX3_smallDivisor 83 = .ok (.getfield 11, 3) := by decide +kernel
theorem dX3_smallDivisor_86 : decode cX3_smallDivisor 86 = .ok (.iload_n 1, 1) := by decide +kernel
theorem dX3_smallDivisor_87 : decode cX3_smallDivisor 87 = .ok (.iconst 2, 1) := by decide +kernel
theorem dX3_smallDivisor_88 : decode cX3_smallDivisor 88 = .ok (.iadd, 1) := by decide +kernel
theorem dX3_smallDivisor_89 : decode cX3_smallDivisor 89 = .ok (.iaload, 1) := by decide +kernel
theorem dX3_smallDivisor_90 : decode cX3_smallDivisor 90 = .ok (.ifCond .eq 7, 3) := by decide +kernel
theorem dX3_smallDivisor_93 : decode cX3_smallDivisor 93 = .ok (.iconst 4, 1) := by decide +kernel
theorem dX3_smallDivisor_94 : decode cX3_smallDivisor 94 = .ok (.goto 4, 3) := by decide +kernel
theorem dX3_smallDivisor_97 : decode cX3_smallDivisor 97 = .ok (.iconst 2, 1) := by decide +kernel
theorem dX3_smallDivisor_98 : decode cX3_smallDivisor 98 = .ok (.iastore, 1) := by decide +kernel
theorem dX3_smallDivisor_99 : decode cX3_smallDivisor 99 = .ok (.return_, 1) := by decide +kernel
theorem dX3_value_0 : decode cX3_value 0 = .ok (.aload_n 0, 1) := by decide +kernel
theorem dX3_value_1 : decode cX3_value 1 = .ok (.getfield 11, 3) := by decide +kernel
theorem dX3_value_4 : decode cX3_value 4 = .ok (.iload_n 1, 1) := by decide +kernel
theorem dX3_value_5 : decode cX3_value 5 = .ok (.iaload, 1) := by decide +kernel
theorem dX3_value_6 : decode cX3_value 6 = .ok (.iconst 1, 1) := by decide +kernel
theorem dX3_value_7 : decode cX3_value 7 = .ok (.ishr, 1) := by decide +kernel
theorem dX3_value_8 : decode cX3_value 8 = .ok (.istore_n 2, 1) := by decide +kernel
theorem dX3_value_9 : decode cX3_value 9 = .ok (.iload_n 2, 1) := by decide +kernel
theorem dX3_value_10 : decode cX3_value 10 = .ok (.iconst 1, 1) := by decide +kernel
theorem dX3_value_11 : decode cX3_value 11 = .ok (.if_icmp .le 15, 3) := by decide +kernel
theorem dX3_value_14 : decode cX3_value 14 = .ok (.aload_n 0, 1) := by decide +kernel
theorem dX3_value_15 : decode cX3_value 15 = .ok (.getfield 11, 3) := by decide +kernel
theorem dX3_value_18 : decode cX3_value 18 = .ok (.iload_n 1, 1) := by decide +kernel
theorem dX3_value_19 : decode cX3_value 19 = .ok (.iconst 2, 1) := by decide +kernel
theorem dX3_value_20 : decode cX3_value 20 = .ok (.iadd, 1) := by decide +kernel
theorem dX3_value_21 : decode cX3_value 21 = .ok (.iaload, 1) := by decide +kernel
theorem dX3_value_22 : decode cX3_value 22 = .ok (.i2l, 1) := by decide +kernel
theorem dX3_value_23 : decode cX3_value 23 = .ok (.goto 4, 3) := by decide +kernel
theorem dX3_value_26 : decode cX3_value 26 = .ok (.lconst 0, 1) := by decide +kernel
theorem dX3_value_27 : decode cX3_value 27 = .ok (.lstore_n 3, 1) := by decide +kernel
theorem dX3_value_28 : decode cX3_value 28 = .ok (.lload_n 3, 1) := by decide +kernel
theorem dX3_value_29 : decode cX3_value 29 = .ok (.ldc2_w 45, 3) := by decide +kernel
theorem dX3_value_32 : decode cX3_value 32 = .ok (.lmul, 1) := by decide +kernel
theorem dX3_value_33 : decode cX3_value 33 = .ok (.iload_n 2, 1) := by decide +kernel
theorem dX3_value_34 : decode cX3_value 34 = .ok (.ifCond .le 14, 3) := by decide +kernel
theorem dX3_value_37 : decode cX3_value 37 = .ok (.aload_n 0, 1) := by decide +kernel
theorem dX3_value_38 : decode cX3_value 38 = .ok (.getfield 11, 3) := by decide +kernel
theorem dX3_value_41 : decode cX3_value 41 = .ok (.iload_n 1, 1) := by decide +kernel
theorem dX3_value_42 : decode cX3_value 42 = .ok (.iconst 1, 1) := by decide +kernel
theorem dX3_value_43 : decode cX3_value 43 = .ok (.iadd, 1) := by decide +kernel
theorem dX3_value_44 : decode cX3_value 44 = .ok (.iaload, 1) := by decide +kernel
theorem dX3_value_45 : decode cX3_value 45 = .ok (.goto 4, 3) := by decide +kernel
theorem dX3_value_48 : decode cX3_value 48 = .ok (.iconst 0, 1) := by decide +kernel
theorem dX3_value_49 : decode cX3_value 49 = .ok (.i2l, 1) := by decide +kernel
theorem dX3_value_50 : decode cX3_value 50 = .ok (.ladd, 1) := by decide +kernel
theorem dX3_value_51 : decode cX3_value 51 = .ok (.lreturn, 1) := by decide +kernel
theorem dX3_leaped_0 : decode cX3_leaped 0 = .ok (.aload_n 0, 1) := by decide +kernel
theorem dX3_leaped_1 : decode cX3_leaped 1 = .ok (.getfield 11, 3) := by decide +kernel
theorem dX3_leaped_4 : decode cX3_leaped 4 = .ok (.iload_n 1, 1) := by decide +kernel
theorem dX3_leaped_5 : decode cX3_leaped 5 = .ok (.iaload, 1) := by decide +kernel
theorem dX3_leaped_6 : decode cX3_leaped 6 = .ok (.iconst 1, 1) := by decide +kernel
theorem dX3_leaped_7 : decode cX3_leaped 7 = .ok (.ishr, 1) := by decide +kernel
theorem dX3_leaped_8 : decode cX3_leaped 8 = .ok (.istore_n 3, 1) := by decide +kernel
theorem dX3_leaped_9 : decode cX3_leaped 9 = .ok (.aload_n 0, 1) := by decide +kernel
theorem dX3_leaped_10 : decode cX3_leaped 10 = .ok (.getfield 11, 3) := by decide +kernel
theorem dX3_leaped_13 : decode cX3_leaped 13 = .ok (.iload_n 2, 1) := by decide +kernel
theorem dX3_leaped_14 : decode cX3_leaped 14 = .ok (.iaload, 1) := by decide +kernel
theorem dX3_leaped_15 : decode cX3_leaped 15 = .ok (.iconst 1, 1) := by decide +kernel
theorem dX3_leaped_16 : decode cX3_leaped 16 = .ok (.ishr, 1) := by decide +kernel
theorem dX3_leaped_17 : decode cX3_leaped 17 = .ok (.istore 4, 2) := by decide +kernel
theorem dX3_leaped_19 : decode cX3_leaped 19 = .ok (.iload 4, 2) := by decide +kernel
theorem dX3_leaped_21 : decode cX3_leaped 21 = .ok (.iload_n 3, 1) := by decide +kernel
theorem dX3_leaped_22 : decode cX3_leaped 22 = .ok (.iconst 1, 1) := by decide +kernel
theorem dX3_leaped_23 : decode cX3_leaped 23 = .ok (.isub, 1) := by decide +kernel
theorem dX3_leaped_24 : decode cX3_leaped 24 = .ok (.if_icmp .ge 5, 3) := by decide +kernel
theorem dX3_leaped_27 : decode cX3_leaped 27 = .ok (.iconst 0, 1) := by decide +kernel
theorem dX3_leaped_28 : decode cX3_leaped 28 = .ok (.ireturn, 1) := by decide +kernel
theorem dX3_leaped_29 : decode cX3_leaped 29 = .ok (.aload_n 0, 1) := by decide +kernel
theorem dX3_leaped_30 : decode cX3_leaped 30 = .ok (.getfield 11, 3) := by decide +kernel
theorem dX3_leaped_33 : decode cX3_leaped 33 = .ok (.iload_n 2, 1) := by decide +kernel
theorem dX3_leaped_34 : decode cX3_leaped 34 = .ok (.iconst 1, 1) := by decide +kernel
theorem dX3_leaped_35 : decode cX3_leaped 35 = .ok (.iadd, 1) := by decide +kernel
theorem dX3_leaped_36 : decode cX3_leaped 36 = .ok (.iload 4, 2) := by decide +kernel
theorem dX3_leaped_38 : decode cX3_leaped 38 = .ok (.iadd, 1) := by decide +kernel
theorem dX3_leaped_39 : decode cX3_leaped 39 = .ok (.iload_n 2, 1) := by decide +kernel
theorem dX3_leaped_40 : decode cX3_leaped 40 = .ok (.iconst 1, 1) := by decide +kernel
theorem dX3_leaped_41 : decode cX3_leaped 41 = .ok (.iadd, 1) := by decide +kernel
theorem dX3_leaped_42 : decode cX3_leaped 42 = .ok (.iload_n 3, 1) := by decide +kernel
theorem dX3_leaped_43 : decode cX3_leaped 43 = .ok (.iadd, 1) := by decide +kernel
theorem dX3_leaped_44 : decode cX3_leaped 44 = .ok (.iconst 0, 1) := by decide +kernel
theorem dX3_leaped_45 : decode cX3_leaped 45 = .ok (.invokestatic 51, 3) := by decide +kernel
theorem dX3_leaped_48 : decode cX3_leaped 48 = .ok (.bipush 9, 2) := by decide +kernel
theorem dX3_leaped_50 : decode cX3_leaped 50 = .ok (.aload_n 0, 1) := by decide +kernel
theorem dX3_leaped_51 : decode cX3_leaped 51 = .ok (.getfield 11, 3) := by decide +kernel
theorem dX3_leaped_54 : decode cX3_leaped 54 = .ok (.iload_n 1, 1) := by decide +kernel
theorem dX3_leaped_55 : decode cX3_leaped 55 = .ok (.iload_n 3, 1) := by decide +kernel
theorem dX3_leaped_56 : decode cX3_leaped 56 = .ok (.iadd, 1) := by decide +kernel
theorem dX3_leaped_57 : decode cX3_leaped 57 = .ok (.iaload, 1) := by decide +kernel
theorem dX3_leaped_58 : decode cX3_leaped 58 = .ok (.invokestatic 128, 3) := by decide +kernel
theorem dX3_leaped_61 : decode cX3_leaped 61 = .ok (.isub, 1) := by decide +kernel
theorem dX3_leaped_62 : decode cX3_leaped 62 = .ok (.istore 5, 2) := by decide +kernel
theorem dX3_leaped_64 : decode cX3_leaped 64 = .ok (.aload_n 0, 1) := by decide +kernel
theorem dX3_leaped_65 : decode cX3_leaped 65 = .ok (.iload_n 1, 1) := by decide +kernel
theorem dX3_leaped_66 : decode cX3_leaped 66 = .ok (.iload_n 3, 1) := by decide +kernel
theorem dX3_leaped_67 : decode cX3_leaped 67 = .ok (.iload 5, 2) := by decide +kernel
theorem dX3_leaped_69 : decode cX3_leaped 69 = .ok (.invokevirtual 131, 3) := by decide +kernel
theorem dX3_leaped_72 : decode cX3_leaped 72 = .ok (.lstore 6, 2) := by decide +kernel
theorem dX3_leaped_74 : decode cX3_leaped 74 = .ok (.aload_n 0, 1) := by decide +kernel
theorem dX3_leaped_75 : decode cX3_leaped 75 = .ok (.iload_n 2, 1) := by decide +kernel
theorem dX3_leaped_76 : decode cX3_leaped 76 = .ok (.iload_n 3, 1) := by decide +kernel
theorem dX3_leaped_77 : decode cX3_leaped 77 = .ok (.iload 5, 2) := by decide +kernel
theorem dX3_leaped_79 : decode cX3_leaped 79 = .ok (.invokevirtual 131, 3) := by decide +kernel
theorem dX3_leaped_82 : decode cX3_leaped 82 = .ok (.lstore 8, 2) := by decide +kernel
theorem dX3_leaped_84 : decode cX3_leaped 84 = .ok (.lconst 1, 1) := by decide +kernel
theorem dX3_leaped_85 : decode cX3_leaped 85 = .ok (.lstore 10, 2) := by decide +kernel
theorem dX3_leaped_87 : decode cX3_leaped 87 = .ok (.lconst 0, 1) := by decide +kernel
theorem dX3_leaped_88 : decode cX3_leaped 88 = .ok (.lstore 12, 2) := by decide +kernel
theorem dX3_leaped_90 : decode cX3_leaped 90 = .ok (.lconst 0, 1) := by decide +kernel
theorem dX3_leaped_91 : decode cX3_leaped 91 = .ok (.lstore 14, 2) := by decide +kernel
theorem dX3_leaped_93 : decode cX3_leaped 93 = .ok (.lconst 1, 1) := by decide +kernel
theorem dX3_leaped_94 : decode cX3_leaped 94 = .ok (.lstore 16, 2) := by decide +kernel
theorem dX3_leaped_96 : decode cX3_leaped 96 = .ok (.iconst 0, 1) := by decide +kernel
theorem dX3_leaped_97 : decode cX3_leaped 97 = .ok (.istore 18, 2) := by decide +kernel
theorem dX3_leaped_99 : decode cX3_leaped 99 = .ok (.iload 18, 2) := by decide +kernel
theorem dX3_leaped_101 : decode cX3_leaped 101 = .ok (.bipush 100, 2) := by decide +kernel
theorem dX3_leaped_103 : decode cX3_leaped 103 = .ok (.if_icmp .ge 152, 3) := by decide +kernel
theorem dX3_leaped_106 : decode cX3_leaped 106 = .ok (.lload 8, 2) := by decide +kernel
theorem dX3_leaped_108 : decode cX3_leaped 108 = .ok (.lload 14, 2) := by decide +kernel
theorem dX3_leaped_110 : decode cX3_leaped 110 = .ok (.ladd, 1) := by decide +kernel
theorem dX3_leaped_111 : decode cX3_leaped 111 = .ok (.lconst 0, 1) := by decide +kernel
theorem dX3_leaped_112 : decode cX3_leaped 112 = .ok (.lcmp, 1) := by decide +kernel
theorem dX3_leaped_113 : decode cX3_leaped 113 = .ok (.ifCond .le 142, 3) := by decide +kernel
theorem dX3_leaped_116 : decode cX3_leaped 116 = .ok (.lload 8, 2) := by decide +kernel
theorem dX3_leaped_118 : decode cX3_leaped 118 = .ok (.lload 16, 2) := by decide +kernel
theorem dX3_leaped_120 : decode cX3_leaped 120 = .ok (.ladd, 1) := by decide +kernel
theorem dX3_leaped_121 : decode cX3_leaped 121 = .ok (.lconst 0, 1) := by decide +kernel
theorem dX3_leaped_122 : decode cX3_leaped 122 = .ok (.lcmp, 1) := by decide +kernel
theorem dX3_leaped_123 : decode cX3_leaped 123 = .ok (.ifCond .le 132, 3) := by decide +kernel
theorem dX3_leaped_126 : decode cX3_leaped 126 = .ok (.lload 6, 2) := by decide +kernel
theorem dX3_leaped_128 : decode cX3_leaped 128 = .ok (.lload 10, 2) := by decide +kernel
theorem dX3_leaped_130 : decode cX3_leaped 130 = .ok (.ladd, 1) := by decide +kernel
theorem dX3_leaped_131 : decode cX3_leaped 131 = .ok (.lload 8, 2) := by decide +kernel
theorem dX3_leaped_133 : decode cX3_leaped 133 = .ok (.lload 14, 2) := by decide +kernel
theorem dX3_leaped_135 : decode cX3_leaped 135 = .ok (.ladd, 1) := by decide +kernel
theorem dX3_leaped_136 : decode cX3_leaped 136 = .ok (.ldiv, 1) := by decide +kernel
theorem dX3_leaped_137 : decode cX3_leaped 137 = .ok (.lstore 19, 2) := by decide +kernel
theorem dX3_leaped_139 : decode cX3_leaped 139 = .ok (.lload 19, 2) := by decide +kernel
theorem dX3_leaped_141 : decode cX3_leaped 141 = .ok (.ldc2_w 45, 3) := by decide +kernel
theorem dX3_leaped_144 : decode cX3_leaped 144 = .ok (.lcmp, 1) := by decide +kernel
theorem dX3_leaped_145 : decode cX3_leaped 145 = .ok (.ifCond .ge 110, 3) := by decide +kernel
theorem dX3_leaped_148 : decode cX3_leaped 148 = .ok (.lload 19, 2) := by decide +kernel
theorem dX3_leaped_150 : decode cX3_leaped 150 = .ok (.lload 6, 2) := by decide +kernel
theorem dX3_leaped_152 : decode cX3_leaped 152 = .ok (.lload 12, 2) := by decide +kernel
theorem dX3_leaped_154 : decode cX3_leaped 154 = .ok (.ladd, 1) := by decide +kernel
theorem dX3_leaped_155 : decode cX3_leaped 155 = .ok (.lload 8, 2) := by decide +kernel
theorem dX3_leaped_157 : decode cX3_leaped 157 = .ok (.lload 16, 2) := by decide +kernel
theorem dX3_leaped_159 : decode cX3_leaped 159 = .ok (.ladd, 1) := by decide +kernel
theorem dX3_leaped_160 : decode cX3_leaped 160 = .ok (.ldiv, 1) := by decide +kernel
theorem dX3_leaped_161 : decode cX3_leaped 161 = .ok (.lcmp, 1) := by decide +kernel
theorem dX3_leaped_162 : decode cX3_leaped 162 = .ok (.ifCond .eq 6, 3) := by decide +kernel
theorem dX3_leaped_165 : decode cX3_leaped 165 = .ok (.goto 90, 3) := by decide +kernel
theorem dX3_leaped_168 : decode cX3_leaped 168 = .ok (.lload 10, 2) := by decide +kernel
theorem dX3_leaped_170 : decode cX3_leaped 170 = .ok (.lload 19, 2) := by decide +kernel
theorem dX3_leaped_172 : decode cX3_leaped 172 = .ok (.lload 14, 2) := by decide +kernel
theorem dX3_leaped_174 : decode cX3_leaped 174 = .ok (.lmul, 1) := by decide +kernel
theorem dX3_leaped_175 : decode cX3_leaped 175 = .ok (.lsub, 1) := by decide +kernel
theorem dX3_leaped_176 : decode cX3_leaped 176 = .ok (.lstore 21, 2) := by decide +kernel
theorem dX3_leaped_178 : decode cX3_leaped 178 = .ok (.lload 12, 2) := by decide +kernel
theorem dX3_leaped_180 : decode cX3_leaped 180 = .ok (.lload 19, 2) := by decide +kernel
theorem dX3_leaped_182 : decode cX3_leaped 182 = .ok (.lload 16, 2) := by decide +kernel
theorem dX3_leaped_184 : decode cX3_leaped 184 = .ok (.lmul, 1) := by decide +kernel
theorem dX3_leaped_185 : decode cX3_leaped 185 = .ok (.lsub, 1) := by decide +kernel
theorem dX3_leaped_186 : decode cX3_leaped 186 = .ok (.lstore 23, 2) := by decide +kernel
theorem dX3_leaped_188 : decode cX3_leaped 188 = .ok (.lload 21, 2) := by decide +kernel
theorem dX3_leaped_190 : decode cX3_leaped 190 = .ok (.invokestatic 135, 3) := by decide +kernel
theorem dX3_leaped_193 : decode cX3_leaped 193 = .ok (.ldc2_w 45, 3) := by decide +kernel
theorem dX3_leaped_196 : decode cX3_leaped 196 = .ok (.lcmp, 1) := by decide +kernel
theorem dX3_leaped_197 : decode cX3_leaped 197 = .ok (.ifCond .ge 58, 3) := by decide +kernel
theorem dX3_leaped_200 : decode cX3_leaped 200 = .ok (.lload 23, 2) := by decide +kernel
theorem dX3_leaped_202 : decode cX3_leaped 202 = .ok (.invokestatic 135, 3) := by decide +kernel
theorem dX3_leaped_205 : decode cX3_leaped 205 = .ok (.ldc2_w 45, 3) := by decide +kernel
theorem dX3_leaped_208 : decode cX3_leaped 208 = .ok (.lcmp, 1) := by decide +kernel
theorem dX3_leaped_209 : decode cX3_leaped 209 = .ok (.ifCond .lt 6, 3) := by decide +kernel
theorem dX3_leaped_212 : decode cX3_leaped 212 = .ok (.goto 43, 3) := by decide +kernel
theorem dX3_leaped_215 : decode cX3_leaped 215 = .ok (.lload 6, 2) := by decide +kernel
theorem dX3_leaped_217 : decode cX3_leaped 217 = .ok (.lload 19, 2) := by decide +kernel
theorem dX3_leaped_219 : decode cX3_leaped 219 = .ok (.lload 8, 2) := by decide +kernel
theorem dX3_leaped_221 : decode cX3_leaped 221 = .ok (.lmul, 1) := by decide +kernel
theorem dX3_leaped_222 : decode cX3_leaped 222 = .ok (.lsub, 1) := by decide +kernel
theorem dX3_leaped_223 : decode cX3_leaped 223 = .ok (.lstore 25, 2) := by decide +kernel
theorem dX3_leaped_225 : decode cX3_leaped 225 = .ok (.lload 8, 2) := by decide +kernel
theorem dX3_leaped_227 : decode cX3_leaped 227 = .ok (.lstore 6, 2) := by decide +kernel
theorem dX3_leaped_229 : decode cX3_leaped 229 = .ok (.lload 25, 2) := by decide +kernel
theorem dX3_leaped_231 : decode cX3_leaped 231 = .ok (.lstore 8, 2) := by decide +kernel
theorem dX3_leaped_233 : decode cX3_leaped 233 = .ok (.lload 14, 2) := by decide +kernel
theorem dX3_leaped_235 : decode cX3_leaped 235 = .ok (.lstore 10, 2) := by decide +kernel
theorem dX3_leaped_237 : decode cX3_leaped 237 = .ok (.lload 16, 2) := by decide +kernel
theorem dX3_leaped_239 : decode cX3_leaped 239 = .ok (.lstore 12, 2) := by decide +kernel
theorem dX3_leaped_241 : decode cX3_leaped 241 = .ok (.lload 21, 2) := by decide +kernel
theorem dX3_leaped_243 : decode cX3_leaped 243 = .ok (.lstore 14, 2) := by decide +kernel
theorem dX3_leaped_245 : decode cX3_leaped 245 = .ok (.lload 23, 2) := by decide +kernel
theorem dX3_leaped_247 : decode cX3_leaped 247 = .ok (.lstore 16, 2) := by decide +kernel
theorem dX3_leaped_249 : decode cX3_leaped 249 = .ok (.iinc 18 1, 3) := by decide +kernel
theorem dX3_leaped_252 : decode cX3_leaped 252 = .ok (.goto (-153), 3) := by decide +kernel
theorem dX3_leaped_255 : decode cX3_leaped 255 = .ok (.lload 12, 2) := by decide +kernel
theorem dX3_leaped_257 : decode cX3_leaped 257 = .ok (.lconst 0, 1) := by decide +kernel
theorem dX3_leaped_258 : decode cX3_leaped 258 = .ok (.lcmp, 1) := by decide +kernel
theorem dX3_leaped_259 : decode cX3_leaped 259 = .ok (.ifCond .ne 5, 3) := by decide +kernel
theorem dX3_leaped_262 : decode cX3_leaped 262 = .ok (.iconst 0, 1) := by decide +kernel
theorem dX3_leaped_263 : decode cX3_leaped 263 = .ok (.ireturn, 1) := by decide +kernel
theorem dX3_leaped_264 : decode cX3_leaped 264 = .ok (.lconst 0, 1) := by decide +kernel
theorem dX3_leaped_265 : decode cX3_leaped 265 = .ok (.lstore 18, 2) := by decide +kernel
theorem dX3_leaped_267 : decode cX3_leaped 267 = .ok (.lconst 0, 1) := by decide +kernel
theorem dX3_leaped_268 : decode cX3_leaped 268 = .ok (.lstore 20, 2) := by decide +kernel
theorem dX3_leaped_270 : decode cX3_leaped 270 = .ok (.iconst 1, 1) := by decide +kernel
theorem dX3_leaped_271 : decode cX3_leaped 271 = .ok (.istore 22, 2) := by decide +kernel
theorem dX3_leaped_273 : decode cX3_leaped 273 = .ok (.iload 22, 2) := by decide +kernel
theorem dX3_leaped_275 : decode cX3_leaped 275 = .ok (.iload_n 3, 1) := by decide +kernel
theorem dX3_leaped_276 : decode cX3_leaped 276 = .ok (.if_icmp .gt 121, 3) := by decide +kernel
theorem dX3_leaped_279 : decode cX3_leaped 279 = .ok (.aload_n 0, 1) := by decide +kernel
theorem dX3_leaped_280 : decode cX3_leaped 280 = .ok (.getfield 11, 3) := by decide +kernel
theorem dX3_leaped_283 : decode cX3_leaped 283 = .ok (.iload_n 1, 1) := by decide +kernel
theorem dX3_leaped_284 : decode cX3_leaped 284 = .ok (.iload 22, 2) := by decide +kernel
theorem dX3_leaped_286 : decode cX3_leaped 286 = .ok (.iadd, 1) := by decide +kernel
theorem dX3_leaped_287 : decode cX3_leaped 287 = .ok (.iaload, 1) := by decide +kernel
theorem dX3_leaped_288 : decode cX3_leaped 288 = .ok (.i2l, 1) := by decide +kernel
theorem dX3_leaped_289 : decode cX3_leaped 289 = .ok (.lstore 23, 2) := by decide +kernel
theorem dX3_leaped_291 : decode cX3_leaped 291 = .ok (.aload_n 0, 1) := by decide +kernel
theorem dX3_leaped_292 : decode cX3_leaped 292 = .ok (.getfield 11, 3) := by decide +kernel
theorem dX3_leaped_295 : decode cX3_leaped 295 = .ok (.iload_n 2, 1) := by decide +kernel
theorem dX3_leaped_296 : decode cX3_leaped 296 = .ok (.iload 22, 2) := by decide +kernel
theorem dX3_leaped_298 : decode cX3_leaped 298 = .ok (.iadd, 1) := by decide +kernel
theorem dX3_leaped_299 : decode cX3_leaped 299 = .ok (.iaload, 1) := by decide +kernel
theorem dX3_leaped_300 : decode cX3_leaped 300 = .ok (.i2l, 1) := by decide +kernel
theorem dX3_leaped_301 : decode cX3_leaped 301 = .ok (.lstore 25, 2) := by decide +kernel
theorem dX3_leaped_303 : decode cX3_leaped 303 = .ok (.lload 18, 2) := by decide +kernel
theorem dX3_leaped_305 : decode cX3_leaped 305 = .ok (.lload 10, 2) := by decide +kernel
theorem dX3_leaped_307 : decode cX3_leaped 307 = .ok (.lload 23, 2) := by decide +kernel
theorem dX3_leaped_309 : decode cX3_leaped 309 = .ok (.lmul, 1) := by decide +kernel
theorem dX3_leaped_310 : decode cX3_leaped 310 = .ok (.lload 12, 2) := by decide +kernel
theorem dX3_leaped_312 : decode cX3_leaped 312 = .ok (.lload 25, 2) := by decide +kernel
theorem dX3_leaped_314 : decode cX3_leaped 314 = .ok (.lmul, 1) := by decide +kernel
theorem dX3_leaped_315 : decode cX3_leaped 315 = .ok (.ladd, 1) := by decide +kernel
theorem dX3_leaped_316 : decode cX3_leaped 316 = .ok (.ladd, 1) := by decide +kernel
theorem dX3_leaped_317 : decode cX3_leaped 317 = .ok (.lstore 18, 2) := by decide +kernel
theorem dX3_leaped_319 : decode cX3_leaped 319 = .ok (.lload 20, 2) := by decide +kernel
theorem dX3_leaped_321 : decode cX3_leaped 321 = .ok (.lload 14, 2) := by decide +kernel
theorem dX3_leaped_323 : decode cX3_leaped 323 = .ok (.lload 23, 2) := by decide +kernel
theorem dX3_leaped_325 : decode cX3_leaped 325 = .ok (.lmul, 1) := by decide +kernel
theorem dX3_leaped_326 : decode cX3_leaped 326 = .ok (.lload 16, 2) := by decide +kernel
theorem dX3_leaped_328 : decode cX3_leaped 328 = .ok (.lload 25, 2) := by decide +kernel
theorem dX3_leaped_330 : decode cX3_leaped 330 = .ok (.lmul, 1) := by decide +kernel
theorem dX3_leaped_331 : decode cX3_leaped 331 = .ok (.ladd, 1) := by decide +kernel
theorem dX3_leaped_332 : decode cX3_leaped 332 = .ok (.ladd, 1) := by decide +kernel
theorem dX3_leaped_333 : decode cX3_leaped 333 = .ok (.lstore 20, 2) := by decide +kernel
theorem dX3_leaped_335 : decode cX3_leaped 335 = .ok (.aload_n 0, 1) := by decide +kernel
theorem dX3_leaped_336 : decode cX3_leaped 336 = .ok (.getfield 11, 3) := by decide +kernel
theorem dX3_leaped_339 : decode cX3_leaped 339 = .ok (.iload_n 1, 1) := by decide +kernel
theorem dX3_leaped_340 : decode cX3_leaped 340 = .ok (.iload 22, 2) := by decide +kernel
theorem dX3_leaped_342 : decode cX3_leaped 342 = .ok (.iadd, 1) := by decide +kernel
theorem dX3_leaped_343 : decode cX3_leaped 343 = .ok (.lload 18, 2) := by decide +kernel
theorem dX3_leaped_345 : decode cX3_leaped 345 = .ok (.ldc2_w 45, 3) := by decide +kernel
theorem dX3_leaped_348 : decode cX3_leaped 348 = .ok (.invokestatic 139, 3) := by decide +kernel
theorem dX3_leaped_351 : decode cX3_leaped 351 = .ok (.l2i, 1) := by decide +kernel
theorem dX3_leaped_352 : decode cX3_leaped 352 = .ok (.iastore, 1) := by decide +kernel
theorem dX3_leaped_353 : decode cX3_leaped 353 = .ok (.aload_n 0, 1) := by decide +kernel
theorem dX3_leaped_354 : decode cX3_leaped 354 = .ok (.getfield 11, 3) := by decide +kernel
theorem dX3_leaped_357 : decode cX3_leaped 357 = .ok (.iload_n 2, 1) := by decide +kernel
theorem dX3_leaped_358 : decode cX3_leaped 358 = .ok (.iload 22, 2) := by decide +kernel
theorem dX3_leaped_360 : decode cX3_leaped 360 = .ok (.iadd, 1) := by decide +kernel
theorem dX3_leaped_361 : decode cX3_leaped 361 = .ok (.lload 20, 2) := by decide +kernel
theorem dX3_leaped_363 : decode cX3_leaped 363 = .ok (.ldc2_w 45, 3) := by decide +kernel
theorem dX3_leaped_366 : decode cX3_leaped 366 = .ok (.invokestatic 139, 3) := by decide +kernel
theorem dX3_leaped_369 : decode cX3_leaped 369 = .ok (.l2i, 1) := by decide +kernel
theorem dX3_leaped_370 : decode cX3_leaped 370 = .ok (.iastore, 1) := by decide +kernel
theorem dX3_leaped_371 : decode cX3_leaped 371 = .ok (.lload 18, 2) := by decide +kernel
theorem dX3_leaped_373 : decode cX3_leaped 373 = .ok (.ldc2_w 45, 3) := by decide +kernel
theorem dX3_leaped_376 : decode cX3_leaped 376 = .ok (.invokestatic 143, 3) := by decide +kernel
theorem dX3_leaped_379 : decode cX3_leaped 379 = .ok (.lstore 18, 2) := by decide +kernel
theorem dX3_leaped_381 : decode cX3_leaped 381 = .ok (.lload 20, 2) := by decide +kernel
theorem dX3_leaped_383 : decode cX3_leaped 383 = .ok (.ldc2_w 45, 3) := by decide +kernel
theorem dX3_leaped_386 : decode cX3_leaped 386 = .ok (.invokestatic 143, 3) := by decide +kernel
theorem dX3_leaped_389 : decode cX3_leaped 389 = .ok (.lstore 20, 2) := by decide +kernel
theorem dX3_leaped_391 : decode cX3_leaped 391 = .ok (.iinc 22 1, 3) := by decide +kernel
theorem dX3_leaped_394 : decode cX3_leaped 394 = .ok (.goto (-121), 3) := by decide +kernel
theorem dX3_leaped_397 : decode cX3_leaped 397 = .ok (.aload_n 0, 1) := by decide +kernel
theorem dX3_leaped_398 : decode cX3_leaped 398 = .ok (.iload_n 1, 1) := by decide +kernel
theorem dX3_leaped_399 : decode cX3_leaped 399 = .ok (.iload_n 3, 1) := by decide +kernel
theorem dX3_leaped_400 : decode cX3_leaped 400 = .ok (.invokevirtual 146, 3) := by decide +kernel
theorem dX3_leaped_403 : decode cX3_leaped 403 = .ok (.aload_n 0, 1) := by decide +kernel
theorem dX3_leaped_404 : decode cX3_leaped 404 = .ok (.iload_n 2, 1) := by decide +kernel
theorem dX3_leaped_405 : decode cX3_leaped 405 = .ok (.iload_n 3, 1) := by decide +kernel
