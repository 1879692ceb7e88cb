theorem dX3_leaped_406 : decode cX3_leaped 406 = .ok (.invokevirtual 146, 3) := by decide +kernel
theorem dX3_leaped_409 : decode cX3_leaped 409 = .ok (.iconst 1, 1) := by decide +kernel
theorem dX3_leaped_410 : decode cX3_leaped 410 = .ok (.ireturn, 1) := by decide +kernel
theorem dX3_shorten_0 : decode cX3_shorten 0 = .ok (.iload_n 2, 1) := by decide +kernel
theorem dX3_shorten_1 : decode cX3_shorten 1 = .ok (.istore_n 3, 1) := by decide +kernel
theorem dX3_shorten_2 : decode cX3_shorten 2 = .ok (.iload_n 3, 1) := by decide +kernel
theorem dX3_shorten_3 : decode cX3_shorten 3 = .ok (.ifCond .le 20, 3) := by decide +kernel
theorem dX3_shorten_6 : decode cX3_shorten 6 = .ok (.aload_n 0, 1) := by decide +kernel
theorem dX3_shorten_7 : decode cX3_shorten 7 = .ok (.getfield 11, 3) := by decide +kernel
theorem dX3_shorten_10 : decode cX3_shorten 10 = .ok (.iload_n 1, 1) := by decide +kernel
theorem dX3_shorten_11 : decode cX3_shorten 11 = .ok (.iload_n 3, 1) := by decide +kernel
theorem dX3_shorten_12 : decode cX3_shorten 12 = .ok (.iadd, 1) := by decide +kernel
theorem dX3_shorten_13 : decode cX3_shorten 13 = .ok (.iaload, 1) := by decide +kernel
theorem dX3_shorten_14 : decode cX3_shorten 14 = .ok (.ifCond .ne 9, 3) := by decide +kernel
theorem dX3_shorten_17 : decode cX3_shorten 17 = .ok (.iinc 3 (-1), 3) := by decide +kernel
theorem dX3_shorten_20 : decode cX3_shorten 20 = .ok (.goto (-18), 3) := by decide +kernel
theorem dX3_shorten_23 : decode cX3_shorten 23 = .ok (.aload_n 0, 1) := by decide +kernel
theorem dX3_shorten_24 : decode cX3_shorten 24 = .ok (.getfield 11, 3) := by decide +kernel
theorem dX3_shorten_27 : decode cX3_shorten 27 = .ok (.iload_n 1, 1) := by decide +kernel
theorem dX3_shorten_28 : decode cX3_shorten 28 = .ok (.iconst 2, 1) := by decide +kernel
theorem dX3_shorten_29 : decode cX3_shorten 29 = .ok (.iload_n 3, 1) := by decide +kernel
theorem dX3_shorten_30 : decode cX3_shorten 30 = .ok (.imul, 1) := by decide +kernel
theorem dX3_shorten_31 : decode cX3_shorten 31 = .ok (.iastore, 1) := by decide +kernel
theorem dX3_shorten_32 : decode cX3_shorten 32 = .ok (.return_, 1) := by decide +kernel
theorem dX3_highFigures_0 : decode cX3_highFigures 0 = .ok (.aload_n 0, 1) := by decide +kernel
theorem dX3_highFigures_1 : decode cX3_highFigures 1 = .ok (.getfield 11, 3) := by decide +kernel
theorem dX3_highFigures_4 : decode cX3_highFigures 4 = .ok (.iload_n 1, 1) := by decide +kernel
theorem dX3_highFigures_5 : decode cX3_highFigures 5 = .ok (.iload_n 2, 1) := by decide +kernel
theorem dX3_highFigures_6 : decode cX3_highFigures 6 = .ok (.iadd, 1) := by decide +kernel
theorem dX3_highFigures_7 : decode cX3_highFigures 7 = .ok (.iaload, 1) := by decide +kernel
theorem dX3_highFigures_8 : decode cX3_highFigures 8 = .ok (.i2l, 1) := by decide +kernel
theorem dX3_highFigures_9 : decode cX3_highFigures 9 = .ok (.ldc2_w 45, 3) := by decide +kernel
theorem dX3_highFigures_12 : decode cX3_highFigures 12 = .ok (.lmul, 1) := by decide +kernel
theorem dX3_highFigures_13 : decode cX3_highFigures 13 = .ok (.aload_n 0, 1) := by decide +kernel
theorem dX3_highFigures_14 : decode cX3_highFigures 14 = .ok (.getfield 11, 3) := by decide +kernel
theorem dX3_highFigures_17 : decode cX3_highFigures 17 = .ok (.iload_n 1, 1) := by decide +kernel
theorem dX3_highFigures_18 : decode cX3_highFigures 18 = .ok (.iload_n 2, 1) := by decide +kernel
theorem dX3_highFigures_19 : decode cX3_highFigures 19 = .ok (.iadd, 1) := by decide +kernel
theorem dX3_highFigures_20 : decode cX3_highFigures 20 = .ok (.iconst 1, 1) := by decide +kernel
theorem dX3_highFigures_21 : decode cX3_highFigures 21 = .ok (.isub, 1) := by decide +kernel
theorem dX3_highFigures_22 : decode cX3_highFigures 22 = .ok (.iaload, 1) := by decide +kernel
theorem dX3_highFigures_23 : decode cX3_highFigures 23 = .ok (.i2l, 1) := by decide +kernel
theorem dX3_highFigures_24 : decode cX3_highFigures 24 = .ok (.ladd, 1) := by decide +kernel
theorem dX3_highFigures_25 : decode cX3_highFigures 25 = .ok (.lstore 4, 2) := by decide +kernel
theorem dX3_highFigures_27 : decode cX3_highFigures 27 = .ok (.lload 4, 2) := by decide +kernel
theorem dX3_highFigures_29 : decode cX3_highFigures 29 = .ok (.getstatic 149, 3) := by decide +kernel
theorem dX3_highFigures_32 : decode cX3_highFigures 32 = .ok (.iload_n 3, 1) := by decide +kernel
theorem dX3_highFigures_33 : decode cX3_highFigures 33 = .ok (.iaload, 1) := by decide +kernel
theorem dX3_highFigures_34 : decode cX3_highFigures 34 = .ok (.i2l, 1) := by decide +kernel
theorem dX3_highFigures_35 : decode cX3_highFigures 35 = .ok (.lmul, 1) := by decide +kernel
theorem dX3_highFigures_36 : decode cX3_highFigures 36 = .ok (.aload_n 0, 1) := by decide +kernel
theorem dX3_highFigures_37 : decode cX3_highFigures 37 = .ok (.getfield 11, 3) := by decide +kernel
theorem dX3_highFigures_40 : decode cX3_highFigures 40 = .ok (.iload_n 1, 1) := by decide +kernel
theorem dX3_highFigures_41 : decode cX3_highFigures 41 = .ok (.iload_n 2, 1) := by decide +kernel
theorem dX3_highFigures_42 : decode cX3_highFigures 42 = .ok (.iadd, 1) := by decide +kernel
theorem dX3_highFigures_43 : decode cX3_highFigures 43 = .ok (.iconst 2, 1) := by decide +kernel
theorem dX3_highFigures_44 : decode cX3_highFigures 44 = .ok (.isub, 1) := by decide +kernel
theorem dX3_highFigures_45 : decode cX3_highFigures 45 = .ok (.iaload, 1) := by decide +kernel
theorem dX3_highFigures_46 : decode cX3_highFigures 46 = .ok (.getstatic 149, 3) := by decide +kernel
theorem dX3_highFigures_49 : decode cX3_highFigures 49 = .ok (.bipush 9, 2) := by decide +kernel
theorem dX3_highFigures_51 : decode cX3_highFigures 51 = .ok (.iload_n 3, 1) := by decide +kernel
theorem dX3_highFigures_52 : decode cX3_highFigures 52 = .ok (.isub, 1) := by decide +kernel
theorem dX3_highFigures_53 : decode cX3_highFigures 53 = .ok (.iaload, 1) := by decide +kernel
theorem dX3_highFigures_54 : decode cX3_highFigures 54 = .ok (.idiv, 1) := by decide +kernel
theorem dX3_highFigures_55 : decode cX3_highFigures 55 = .ok (.i2l, 1) := by decide +kernel
theorem dX3_highFigures_56 : decode cX3_highFigures 56 = .ok (.ladd, 1) := by decide +kernel
theorem dX3_highFigures_57 : decode cX3_highFigures 57 = .ok (.lreturn, 1) := by decide +kernel
theorem dX3_limbFigures_0 : decode cX3_limbFigures 0 = .ok (.iconst 1, 1) := by decide +kernel
theorem dX3_limbFigures_1 : decode cX3_limbFigures 1 = .ok (.istore_n 1, 1) := by decide +kernel
theorem dX3_limbFigures_2 : decode cX3_limbFigures 2 = .ok (.iload_n 1, 1) := by decide +kernel
theorem dX3_limbFigures_3 : decode cX3_limbFigures 3 = .ok (.bipush 9, 2) := by decide +kernel
theorem dX3_limbFigures_5 : decode cX3_limbFigures 5 = .ok (.if_icmp .ge 18, 3) := by decide +kernel
theorem dX3_limbFigures_8 : decode cX3_limbFigures 8 = .ok (.iload_n 0, 1) := by decide +kernel
theorem dX3_limbFigures_9 : decode cX3_limbFigures 9 = .ok (.getstatic 149, 3) := by decide +kernel
theorem dX3_limbFigures_12 : decode cX3_limbFigures 12 = .ok (.iload_n 1, 1) := by decide +kernel
theorem dX3_limbFigures_13 : decode cX3_limbFigures 13 = .ok (.iaload, 1) := by decide +kernel
theorem dX3_limbFigures_14 : decode cX3_limbFigures 14 = .ok (.if_icmp .lt 9, 3) := by decide +kernel
theorem dX3_limbFigures_17 : decode cX3_limbFigures 17 = .ok (.iinc 1 1, 3) := by decide +kernel
theorem dX3_limbFigures_20 : decode cX3_limbFigures 20 = .ok (.goto (-18), 3) := by decide +kernel
theorem dX3_limbFigures_23 : decode cX3_limbFigures 23 = .ok (.iload_n 1, 1) := by decide +kernel
theorem dX3_limbFigures_24 : decode cX3_limbFigures 24 = .ok (.ireturn, 1) := by decide +kernel
theorem dX3_lowest_0 : decode cX3_lowest 0 = .ok (.aload_n 0, 1) := by decide +kernel
theorem dX3_lowest_1 : decode cX3_lowest 1 = .ok (.getfield 15, 3) := by decide +kernel
theorem dX3_lowest_4 : decode cX3_lowest 4 = .ok (.istore_n 3, 1) := by decide +kernel
theorem dX3_lowest_5 : decode cX3_lowest 5 = .ok (.aload_n 0, 1) := by decide +kernel
theorem dX3_lowest_6 : decode cX3_lowest 6 = .ok (.iload_n 1, 1) := by decide +kernel
theorem dX3_lowest_7 : decode cX3_lowest 7 = .ok (.iload_n 2, 1) := by decide +kernel
theorem dX3_lowest_8 : decode cX3_lowest 8 = .ok (.invokevirtual 179, 3) := by decide +kernel
theorem dX3_lowest_11 : decode cX3_lowest 11 = .ok (.istore 4, 2) := by decide +kernel
theorem dX3_lowest_13 : decode cX3_lowest 13 = .ok (.aload_n 0, 1) := by decide +kernel
theorem dX3_lowest_14 : decode cX3_lowest 14 = .ok (.iload_n 1, 1) := by decide +kernel
theorem dX3_lowest_15 : decode cX3_lowest 15 = .ok (.iload 4, 2) := by decide +kernel
theorem dX3_lowest_17 : decode cX3_lowest 17 = .ok (.invokevirtual 100, 3) := by decide +kernel
theorem dX3_lowest_20 : decode cX3_lowest 20 = .ok (.istore 5, 2) := by decide +kernel
theorem dX3_lowest_22 : decode cX3_lowest 22 = .ok (.aload_n 0, 1) := by decide +kernel
theorem dX3_lowest_23 : decode cX3_lowest 23 = .ok (.aload_n 0, 1) := by decide +kernel
theorem dX3_lowest_24 : decode cX3_lowest 24 = .ok (.iload 5, 2) := by decide +kernel
theorem dX3_lowest_26 : decode cX3_lowest 26 = .ok (.invokevirtual 103, 3) := by decide +kernel
theorem dX3_lowest_29 : decode cX3_lowest 29 = .ok (.putfield 15, 3) := by decide +kernel
theorem dX3_lowest_32 : decode cX3_lowest 32 = .ok (.aload_n 0, 1) := by decide +kernel
theorem dX3_lowest_33 : decode cX3_lowest 33 = .ok (.iload_n 2, 1) := by decide +kernel
theorem dX3_lowest_34 : decode cX3_lowest 34 = .ok (.iload 4, 2) := by decide +kernel
theorem dX3_lowest_36 : decode cX3_lowest 36 = .ok (.invokevirtual 100, 3) := by decide +kernel
theorem dX3_lowest_39 : decode cX3_lowest 39 = .ok (.istore 6, 2) := by decide +kernel
theorem dX3_lowest_41 : decode cX3_lowest 41 = .ok (.aload_n 0, 1) := by decide +kernel
theorem dX3_lowest_42 : decode cX3_lowest 42 = .ok (.aload_n 0, 1) := by decide +kernel
theorem dX3_lowest_43 : decode cX3_lowest 43 = .ok (.iload 6, 2) := by decide +kernel
theorem dX3_lowest_45 : decode cX3_lowest 45 = .ok (.invokevirtual 103, 3) := by decide +kernel
theorem dX3_lowest_48 : decode cX3_lowest 48 = .ok (.putfield 15, 3) := by decide +kernel
theorem dX3_lowest_51 : decode cX3_lowest 51 = .ok (.aload_n 0, 1) := by decide +kernel
theorem dX3_lowest_52 : decode cX3_lowest 52 = .ok (.iload 6, 2) := by decide +kernel
theorem dX3_lowest_54 : decode cX3_lowest 54 = .ok (.invokevirtual 67, 3) := by decide +kernel
theorem dX3_lowest_57 : decode cX3_lowest 57 = .ok (.ifCond .eq 9, 3) := by decide +kernel
theorem dX3_lowest_60 : decode cX3_lowest 60 = .ok (.aload_n 0, 1) := by decide +kernel
theorem dX3_lowest_61 : decode cX3_lowest 61 = .ok (.iload 5, 2) := by decide +kernel
theorem dX3_lowest_63 : decode cX3_lowest 63 = .ok (.invokevirtual 182, 3) := by decide +kernel
theorem dX3_lowest_66 : decode cX3_lowest 66 = .ok (.aload_n 0, 1) := by decide +kernel
theorem dX3_lowest_67 : decode cX3_lowest 67 = .ok (.iload_n 3, 1) := by decide +kernel
theorem dX3_lowest_68 : decode cX3_lowest 68 = .ok (.iload 5, 2) := by decide +kernel
theorem dX3_lowest_70 : decode cX3_lowest 70 = .ok (.invokevirtual 110, 3) := by decide +kernel
theorem dX3_lowest_73 : decode cX3_lowest 73 = .ok (.ireturn, 1) := by decide +kernel
theorem dX3_figures_0 : decode cX3_figures 0 = .ok (.aload_n 0, 1) := by decide +kernel
theorem dX3_figures_1 : decode cX3_figures 1 = .ok (.getfield 11, 3) := by decide +kernel
theorem dX3_figures_4 : decode cX3_figures 4 = .ok (.iload_n 1, 1) := by decide +kernel
theorem dX3_figures_5 : decode cX3_figures 5 = .ok (.iaload, 1) := by decide +kernel
theorem dX3_figures_6 : decode cX3_figures 6 = .ok (.iconst 1, 1) := by decide +kernel
theorem dX3_figures_7 : decode cX3_figures 7 = .ok (.ishr, 1) := by decide +kernel
theorem dX3_figures_8 : decode cX3_figures 8 = .ok (.istore_n 2, 1) := by decide +kernel
theorem dX3_figures_9 : decode cX3_figures 9 = .ok (.iload_n 2, 1) := by decide +kernel
theorem dX3_figures_10 : decode cX3_figures 10 = .ok (.ifCond .ne 7, 3) := by decide +kernel
theorem dX3_figures_13 : decode cX3_figures 13 = .ok (.iconst 1, 1) := by decide +kernel
theorem dX3_figures_14 : decode cX3_figures 14 = .ok (.goto 21, 3) := by decide +kernel
theorem dX3_figures_17 : decode cX3_figures 17 = .ok (.iload_n 2, 1) := by decide +kernel
theorem dX3_figures_18 : decode cX3_figures 18 = .ok (.iconst 1, 1) := by decide +kernel
theorem dX3_figures_19 : decode cX3_figures 19 = .ok (.isub, 1) := by decide +kernel
theorem dX3_figures_20 : decode cX3_figures 20 = .ok (.bipush 9, 2) := by decide +kernel
theorem dX3_figures_22 : decode cX3_figures 22 = .ok (.imul, 1) := by decide +kernel
theorem dX3_figures_23 : decode cX3_figures 23 = .ok (.aload_n 0, 1) := by decide +kernel
theorem dX3_figures_24 : decode cX3_figures 24 = .ok (.getfield 11, 3) := by decide +kernel
theorem dX3_figures_27 : decode cX3_figures 27 = .ok (.iload_n 1, 1) := by decide +kernel
theorem dX3_figures_28 : decode cX3_figures 28 = .ok (.iload_n 2, 1) := by decide +kernel
theorem dX3_figures_29 : decode cX3_figures 29 = .ok (.iadd, 1) := by decide +kernel
theorem dX3_figures_30 : decode cX3_figures 30 = .ok (.iaload, 1) := by decide +kernel
theorem dX3_figures_31 : decode cX3_figures 31 = .ok (.invokestatic 128, 3) := by decide +kernel
theorem dX3_figures_34 : decode cX3_figures 34 = .ok (.iadd, 1) := by decide +kernel
theorem dX3_figures_35 : decode cX3_figures 35 = .ok (.ireturn, 1) := by decide +kernel
theorem dX3_figureAt_0 : decode cX3_figureAt 0 = .ok (.aload_n 0, 1) := by decide +kernel
theorem dX3_figureAt_1 : decode cX3_figureAt 1 = .ok (.iload_n 1, 1) := by decide +kernel
theorem dX3_figureAt_2 : decode cX3_figureAt 2 = .ok (.invokevirtual 185, 3) := by decide +kernel
theorem dX3_figureAt_5 : decode cX3_figureAt 5 = .ok (.iconst 1, 1) := by decide +kernel
theorem dX3_figureAt_6 : decode cX3_figureAt 6 = .ok (.isub, 1) := by decide +kernel
theorem dX3_figureAt_7 : decode cX3_figureAt 7 = .ok (.iload_n 2, 1) := by decide +kernel
theorem dX3_figureAt_8 : decode cX3_figureAt 8 = .ok (.isub, 1) := by decide +kernel
theorem dX3_figureAt_9 : decode cX3_figureAt 9 = .ok (.istore_n 3, 1) := by decide +kernel
theorem dX3_figureAt_10 : decode cX3_figureAt 10 = .ok (.aload_n 0, 1) := by decide +kernel
theorem dX3_figureAt_11 : decode cX3_figureAt 11 = .ok (.getfield 11, 3) := by decide +kernel
theorem dX3_figureAt_14 : decode cX3_figureAt 14 = .ok (.iload_n 1, 1) := by decide +kernel
theorem dX3_figureAt_15 : decode cX3_figureAt 15 = .ok (.iaload, 1) := by decide +kernel
theorem dX3_figureAt_16 : decode cX3_figureAt 16 = .ok (.ifCond .eq 7, 3) := by decide +kernel
theorem dX3_figureAt_19 : decode cX3_figureAt 19 = .ok (.iload_n 3, 1) := by decide +kernel
theorem dX3_figureAt_20 : decode cX3_figureAt 20 = .ok (.ifCond .ge 5, 3) := by decide +kernel
theorem dX3_figureAt_23 : decode cX3_figureAt 23 = .ok (.iconst 0, 1) := by decide +kernel
theorem dX3_figureAt_24 : decode cX3_figureAt 24 = .ok (.ireturn, 1) := by decide +kernel
theorem dX3_figureAt_25 : decode cX3_figureAt 25 = .ok (.aload_n 0, 1) := by decide +kernel
theorem dX3_figureAt_26 : decode cX3_figureAt 26 = .ok (.getfield 11, 3) := by decide +kernel
theorem dX3_figureAt_29 : decode cX3_figureAt 29 = .ok (.iload_n 1, 1) := by decide +kernel
theorem dX3_figureAt_30 : decode cX3_figureAt 30 = .ok (.iconst 1, 1) := by decide +kernel
theorem dX3_figureAt_31 : decode cX3_figureAt 31 = .ok (.iadd, 1) := by decide +kernel
theorem dX3_figureAt_32 : decode cX3_figureAt 32 = .ok (.iload_n 3, 1) := by decide +kernel
theorem dX3_figureAt_33 : decode cX3_figureAt 33 = .ok (.bipush 9, 2) := by decide +kernel
theorem dX3_figureAt_35 : decode cX3_figureAt 35 = .ok (.idiv, 1) := by decide +kernel
theorem dX3_figureAt_36 : decode cX3_figureAt 36 = .ok (.iadd, 1) := by decide +kernel
theorem dX3_figureAt_37 : decode cX3_figureAt 37 = .ok (.iaload, 1) := by decide +kernel
theorem dX3_figureAt_38 : decode cX3_figureAt 38 = .ok (.istore 4, 2) := by decide +kernel
theorem dX3_figureAt_40 : decode cX3_figureAt 40 = .ok (.iload 4, 2) := by decide +kernel
theorem dX3_figureAt_42 : decode cX3_figureAt 42 = .ok (.getstatic 149, 3) := by decide +kernel
theorem dX3_figureAt_45 : decode cX3_figureAt 45 = .ok (.iload_n 3, 1) := by decide +kernel
theorem dX3_figureAt_46 : decode cX3_figureAt 46 = .ok (.bipush 9, 2) := by decide +kernel
theorem dX3_figureAt_48 : decode cX3_figureAt 48 = .ok (.irem, 1) := by decide +kernel
theorem dX3_figureAt_49 : decode cX3_figureAt 49 = .ok (.iaload, 1) := by decide +kernel
theorem dX3_figureAt_50 : decode cX3_figureAt 50 = .ok (.idiv, 1) := by decide +kernel
theorem dX3_figureAt_51 : decode cX3_figureAt 51 = .ok (.bipush 10, 2) := by decide +kernel
theorem dX3_figureAt_53 : decode cX3_figureAt 53 = .ok (.irem, 1) := by decide +kernel
theorem dX3_figureAt_54 : decode cX3_figureAt 54 = .ok (.ireturn, 1) := by decide +kernel
theorem dX3_isWider_0 : decode cX3_isWider 0 = .ok (.aload_n 0, 1) := by decide +kernel
theorem dX3_isWider_1 : decode cX3_isWider 1 = .ok (.iload_n 1, 1) := by decide +kernel
theorem dX3_isWider_2 : decode cX3_isWider 2 = .ok (.invokevirtual 185, 3) := by decide +kernel
theorem dX3_isWider_5 : decode cX3_isWider 5 = .ok (.iload_n 2, 1) := by decide +kernel
theorem dX3_isWider_6 : decode cX3_isWider 6 = .ok (.if_icmp .gt 16, 3) := by decide +kernel
theorem dX3_isWider_9 : decode cX3_isWider 9 = .ok (.aload_n 0, 1) := by decide +kernel
theorem dX3_isWider_10 : decode cX3_isWider 10 = .ok (.aload_n 0, 1) := by decide +kernel
theorem dX3_isWider_11 : decode cX3_isWider 11 = .ok (.iload_n 1, 1) := by decide +kernel
theorem dX3_isWider_12 : decode cX3_isWider 12 = .ok (.invokevirtual 103, 3) := by decide +kernel
theorem dX3_isWider_15 : decode cX3_isWider 15 = .ok (.invokevirtual 185, 3) := by decide +kernel
theorem dX3_isWider_18 : decode cX3_isWider 18 = .ok (.iload_n 2, 1) := by decide +kernel
theorem dX3_isWider_19 : decode cX3_isWider 19 = .ok (.if_icmp .le 7, 3) := by decide +kernel
theorem dX3_isWider_22 : decode cX3_isWider 22 = .ok (.iconst 1, 1) := by decide +kernel
theorem dX3_isWider_23 : decode cX3_isWider 23 = .ok (.goto 4, 3) := by decide +kernel
theorem dX3_isWider_26 : decode cX3_isWider 26 = .ok (.iconst 0, 1) := by decide +kernel
theorem dX3_isWider_27 : decode cX3_isWider 27 = .ok (.ireturn, 1) := by decide +kernel
theorem dX4_init_0 : decode cX4_init 0 = .ok (.aload_n 0, 1) := by decide +kernel
theorem dX4_init_1 : decode cX4_init 1 = .ok (.invokespecial 3, 3) := by decide +kernel
theorem dX4_init_4 : decode cX4_init 4 = .ok (.aload_n 0, 1) := by decide +kernel
theorem dX4_init_5 : decode cX4_init 5 = .ok (.sipush 2240, 3) := by decide +kernel
theorem dX4_init_8 : decode cX4_init 8 = .ok (.newarray .byte, 2) := by decide +kernel
theorem dX4_init_10 : decode cX4_init 10 = .ok (.putfield 11, 3) := by decide +kernel
theorem dX4_init_13 : decode cX4_init 13 = .ok (.aload_n 0, 1) := by decide +kernel
theorem dX4_init_14 : decode cX4_init 14 = .ok (.aload_n 1, 1) := by decide +kernel
theorem dX4_init_15 : decode cX4_init 15 = .ok (.putfield 15, 3) := by decide +kernel
theorem dX4_init_18 : decode cX4_init 18 = .ok (.return_, 1) := by decide +kernel
theorem dX5_init_0 : decode cX5_init 0 = .ok (.aload_n 0, 1) := by decide +kernel
theorem dX5_init_1 : decode cX5_init 1 = .ok (.invokespecial 3, 3) := by decide +kernel
theorem dX5_init_4 : decode cX5_init 4 = .ok (.aload_n 0, 1) := by decide +kernel
theorem dX5_init_5 : decode cX5_init 5 = .ok (.bipush 16, 2) := by decide +kernel
theorem dX5_init_7 : decode cX5_init 7 = .ok (.newarray .int, 2) := by decide +kernel
theorem dX5_init_9 : decode cX5_init 9 = .ok (.putfield 9, 3) := by decide +kernel
theorem dX5_init_12 : decode cX5_init 12 = .ok (.aload_n 0, 1) := by decide +kernel
theorem dX5_init_13 : decode cX5_init 13 = .ok (.bipush 16, 2) := by decide +kernel
theorem dX5_init_15 : decode cX5_init 15 = .ok (.newarray .int, 2) := by decide +kernel
theorem dX5_init_17 : decode cX5_init 17 = .ok (.putfield 15, 3) := by decide +kernel
theorem dX5_init_20 : decode cX5_init 20 = .ok (.aload_n 0, 1) := by decide +kernel
theorem dX5_init_21 : decode cX5_init 21 = .ok (.aload_n 1, 1) := by decide +kernel
theorem dX5_init_22 : decode cX5_init 22 = .ok (.putfield 18, 3) := by decide +kernel
theorem dX5_init_25 : decode cX5_init 25 = .ok (.aload_n 0, 1) := by decide +kernel
theorem dX5_init_26 : decode cX5_init 26 = .ok (.aload_n 2, 1) := by decide +kernel
theorem dX5_init_27 : decode cX5_init 27 = .ok (.putfield 22, 3) := by decide +kernel
theorem dX5_init_30 : decode cX5_init 30 = .ok (.return_, 1) := by decide +kernel
theorem dX5_begin_0 : decode cX5_begin 0 = .ok (.aload_n 0, 1) := by decide +kernel
theorem dX5_begin_1 : decode cX5_begin 1 = .ok (.iload_n 1, 1) := by decide +kernel
theorem dX5_begin_2 : decode cX5_begin 2 = .ok (.putfield 26, 3) := by decide +kernel
theorem dX5_begin_5 : decode cX5_begin 5 = .ok (.aload_n 0, 1) := by decide +kernel
theorem dX5_begin_6 : decode cX5_begin 6 = .ok (.getfield 9, 3) := by decide +kernel
theorem dX5_begin_9 : decode cX5_begin 9 = .ok (.iconst 0, 1) := by decide +kernel
theorem dX5_begin_10 : decode cX5_begin 10 = .ok (.aload_n 0, 1) := by decide +kernel
theorem dX5_begin_11 : decode cX5_begin 11 = .ok (.getfield 18, 3) := by decide +kernel
theorem dX5_begin_14 : decode cX5_begin 14 = .ok (.sipush 128, 3) := by decide +kernel
theorem dX5_begin_17 : decode cX5_begin 17 = .ok (.aload_n 0, 1) := by decide +kernel
theorem dX5_begin_18 : decode cX5_begin 18 = .ok (.getfield 26, 3) := by decide +kernel
theorem dX5_begin_21 : decode cX5_begin 21 = .ok (.invokevirtual 32, 3) := by decide +kernel
theorem dX5_begin_24 : decode cX5_begin 24 = .ok (.iastore, 1) := by decide +kernel
theorem dX5_begin_25 : decode cX5_begin 25 = .ok (.aload_n 0, 1) := by decide +kernel
theorem dX5_begin_26 : decode cX5_begin 26 = .ok (.getfield 15, 3) := by decide +kernel
theorem dX5_begin_29 : decode cX5_begin 29 = .ok (.iconst 0, 1) := by decide +kernel
theorem dX5_begin_30 : decode cX5_begin 30 = .ok (.aload_n 0, 1) := by decide +kernel
theorem dX5_begin_31 : decode cX5_begin 31 = .ok (.getfield 9, 3) := by decide +kernel
theorem dX5_begin_34 : decode cX5_begin 34 = .ok (.iconst 0, 1) := by decide +kernel
theorem dX5_begin_35 : decode cX5_begin 35 = .ok (.iaload, 1) := by decide +kernel
theorem dX5_begin_36 : decode cX5_begin 36 = .ok (.iastore, 1) := by decide +kernel
theorem dX5_begin_37 : decode cX5_begin 37 = .ok (.return_, 1) := by decide +kernel
theorem dX6_init_0 : decode cX6_init 0 = .ok (.aload_n 0, 1) := by decide +kernel
theorem dX6_init_1 : decode cX6_init 1 = .ok (.invokespecial 1, 3) := by decide +kernel
theorem dX6_init_4 : decode cX6_init 4 = .ok (.aload_n 0, 1) := by decide +kernel
theorem dX6_init_5 : decode cX6_init 5 = .ok (.new 7, 3) := by decide +kernel
theorem dX6_init_8 : decode cX6_init 8 = .ok (.dup, 1) := by decide +kernel
theorem dX6_init_9 : decode cX6_init 9 = .ok (.invokespecial 9, 3) := by decide +kernel
theorem dX6_init_12 : decode cX6_init 12 = .ok (.putfield 10, 3) := by decide +kernel
theorem dX6_init_15 : decode cX6_init 15 = .ok (.aload_n 0, 1) := by decide +kernel
theorem dX6_init_16 : decode cX6_init 16 = .ok (.new 16, 3) := by decide +kernel
theorem dX6_init_19 : decode cX6_init 19 = .ok (.dup, 1) := by decide +kernel
theorem dX6_init_20 : decode cX6_init 20 = .ok (.aload_n 0, 1) := by decide +kernel
theorem dX6_init_21 : decode cX6_init 21 = .ok (.getfield 10, 3) := by decide +kernel
theorem dX6_init_24 : decode cX6_init 24 = .ok (.invokespecial 18, 3) := by decide +kernel
theorem dX6_init_27 : decode cX6_init 27 = .ok (.putfield 21, 3) := by decide +kernel
theorem dX6_init_30 : decode cX6_init 30 = .ok (.aload_n 0, 1) := by decide +kernel
theorem dX6_init_31 : decode cX6_init 31 = .ok (.new 25, 3) := by decide +kernel
theorem dX6_init_34 : decode cX6_init 34 = .ok (.dup, 1) := by decide +kernel
theorem dX6_init_35 : decode cX6_init 35 = .ok (.aload_n 0, 1) := by decide +kernel
theorem dX6_init_36 : decode cX6_init 36 = .ok (.getfield 10, 3) := by decide +kernel
theorem dX6_init_39 : decode cX6_init 39 = .ok (.aload_n 0, 1) := by decide +kernel
theorem dX6_init_40 : decode cX6_init 40 = .ok (.getfield 21, 3) := by decide +kernel
theorem dX6_init_43 : decode cX6_init 43 = .ok (.invokespecial 27, 3) := by decide +kernel
theorem dX6_init_46 : decode cX6_init 46 = .ok (.putfield 30, 3) := by decide +kernel
theorem dX6_init_49 : decode cX6_init 49 = .ok (.aload_n 0, 1) := by decide +kernel
theorem dX6_init_50 : decode cX6_init 50 = .ok (.new 34, 3) := by decide +kernel
theorem dX6_init_53 : decode cX6_init 53 = .ok (.dup, 1) := by decide +kernel
theorem dX6_init_54 : decode cX6_init 54 = .ok (.aload_n 0, 1) := by decide +kernel
theorem dX6_init_55 : decode cX6_init 55 = .ok (.getfield 10, 3) := by decide +kernel
theorem dX6_init_58 : decode cX6_init 58 = .ok (.aload_n 0, 1) := by decide +kernel
theorem dX6_init_59 : decode cX6_init 59 = .ok (.getfield 21, 3) := by decide +kernel
theorem dX6_init_62 : decode cX6_init 62 = .ok (.invokespecial 36, 3) := by decide +kernel
theorem dX6_init_65 : decode cX6_init 65 = .ok (.putfield 37, 3) := by decide +kernel
theorem dX6_init_68 : decode cX6_init 68 = .ok (.aload_n 0, 1) := by decide +kernel
theorem dX6_init_69 : decode cX6_init 69 = .ok (.new 41, 3) := by decide +kernel
theorem dX6_init_72 : decode cX6_init 72 = .ok (.dup, 1) := by decide +kernel
theorem dX6_init_73 : decode cX6_init 73 = .ok (.aload_n 0, 1) := by decide +kernel
theorem dX6_init_74 : decode cX6_init 74 = .ok (.getfield 10, 3) := by decide +kernel
theorem dX6_init_77 : decode cX6_init 77 = .ok (.invokespecial 43, 3) := by decide +kernel
theorem dX6_init_80 : decode cX6_init 80 = .ok (.putfield 44, 3) := by decide +kernel
theorem dX6_init_83 : decode cX6_init 83 = .ok (.aload_n 0, 1) := by decide +kernel
theorem dX6_init_84 : decode cX6_init 84 = .ok (.invokevirtual 48, 3) := by decide +kernel
theorem dX6_init_87 : decode cX6_init 87 = .ok (.return_, 1) := by decide +kernel
theorem dX6_fraction_0 : decode cX6_fraction 0 = .ok (.aload_n 0, 1) := by decide +kernel
theorem dX6_fraction_1 : decode cX6_fraction 1 = .ok (.getfield 30, 3) := by decide +kernel
theorem dX6_fraction_4 : decode cX6_fraction 4 = .ok (.invokevirtual 51, 3) := by decide +kernel
theorem dX6_fraction_7 : decode cX6_fraction 7 = .ok (.ifCond .eq 5, 3) := by decide +kernel
theorem dX6_fraction_10 : decode cX6_fraction 10 = .ok (.iconst (-1), 1) := by decide +kernel
theorem dX6_fraction_11 : decode cX6_fraction 11 = .ok (.ireturn, 1) := by decide +kernel
theorem dX6_fraction_12 : decode cX6_fraction 12 = .ok (.lload_n 3, 1) := by decide +kernel
theorem dX6_fraction_13 : decode cX6_fraction 13 = .ok (.lconst 0, 1) := by decide +kernel
theorem dX6_fraction_14 : decode cX6_fraction 14 = .ok (.lcmp, 1) := by decide +kernel
theorem dX6_fraction_15 : decode cX6_fraction 15 = .ok (.ifCond .ne 6, 3) := by decide +kernel
theorem dX6_fraction_18 : decode cX6_fraction 18 = .ok (.bipush (-2), 2) := by decide +kernel
theorem dX6_fraction_20 : decode cX6_fraction 20 = .ok (.ireturn, 1) := by decide +kernel
theorem dX6_fraction_21 : decode cX6_fraction 21 = .ok (.aload_n 0, 1) := by decide +kernel
theorem dX6_fraction_22 : decode cX6_fraction 22 = .ok (.getfield 10, 3) := by decide +kernel
theorem dX6_fraction_25 : decode cX6_fraction 25 = .ok (.lload_n 3, 1) := by decide +kernel
theorem dX6_fraction_26 : decode cX6_fraction 26 = .ok (.invokevirtual 55, 3) := by decide +kernel
theorem dX6_fraction_29 : decode cX6_fraction 29 = .ok (.istore 5, 2) := by decide +kernel
theorem dX6_fraction_31 : decode cX6_fraction 31 = .ok (.aload_n 0, 1) := by decide +kernel
theorem dX6_fraction_32 : decode cX6_fraction 32 = .ok (.getfield 10, 3) := by decide +kernel
theorem dX6_fraction_35 : decode cX6_fraction 35 = .ok (.lload_n 1, 1) := by decide +kernel
theorem dX6_fraction_36 : decode cX6_fraction 36 = .ok (.invokevirtual 55, 3) := by decide +kernel
theorem dX6_fraction_39 : decode cX6_fraction 39 = .ok (.pop, 1) := by decide +kernel
theorem dX6_fraction_40 : decode cX6_fraction 40 = .ok (.aload_n 0, 1) := by decide +kernel
theorem dX6_fraction_41 : decode cX6_fraction 41 = .ok (.getfield 30, 3) := by decide +kernel
theorem dX6_fraction_44 : decode cX6_fraction 44 = .ok (.iconst 0, 1) := by decide +kernel
theorem dX6_fraction_45 : decode cX6_fraction 45 = .ok (.iload 5, 2) := by decide +kernel
theorem dX6_fraction_47 : decode cX6_fraction 47 = .ok (.invokevirtual 59, 3) := by decide +kernel
theorem dX6_fraction_50 : decode cX6_fraction 50 = .ok (.ireturn, 1) := by decide +kernel
theorem dX6_apply_0 : decode cX6_apply 0 = .ok (.iload_n 1, 1) := by decide +kernel
theorem dX6_apply_1 : decode cX6_apply 1 = .ok (.ifCond .lt 40, 3) := by decide +kernel
theorem dX6_apply_4 : decode cX6_apply 4 = .ok (.iload_n 1, 1) := by decide +kernel
theorem dX6_apply_5 : decode cX6_apply 5 = .ok (.iconst 3, 1) := by decide +kernel
theorem dX6_apply_6 : decode cX6_apply 6 = .ok (.if_icmp .gt 35, 3) := by decide +kernel
theorem dX6_apply_9 : decode cX6_apply 9 = .ok (.aload_n 0, 1) := by decide +kernel
theorem dX6_apply_10 : decode cX6_apply 10 = .ok (.getfield 30, 3) := by decide +kernel
theorem dX6_apply_13 : decode cX6_apply 13 = .ok (.iload_n 2, 1) := by decide +kernel
theorem dX6_apply_14 : decode cX6_apply 14 = .ok (.invokevirtual 63, 3) := by decide +kernel
theorem dX6_apply_17 : decode cX6_apply 17 = .ok (.ifCond .eq 24, 3) := by decide +kernel
theorem dX6_apply_20 : decode cX6_apply 20 = .ok (.aload_n 0, 1) := by decide +kernel
theorem dX6_apply_21 : decode cX6_apply 21 = .ok (.getfield 30, 3) := by decide +kernel
theorem dX6_apply_24 : decode cX6_apply 24 = .ok (.iload_n 3, 1) := by decide +kernel
theorem dX6_apply_25 : decode cX6_apply 25 = .ok (.invokevirtual 63, 3) := by decide +kernel
theorem dX6_apply_28 : decode cX6_apply 28 = .ok (.ifCond .eq 13, 3) := by decide +kernel
theorem dX6_apply_31 : decode cX6_apply 31 = .ok (.aload_n 0, 1) := by decide +kernel
theorem dX6_apply_32 : decode cX6_apply 32 = .ok (.getfield 30, 3) := by decide +kernel
theorem dX6_apply_35 : decode cX6_apply 35 = .ok (.invokevirtual 51, 3) := by decide +kernel
theorem dX6_apply_38 : decode cX6_apply 38 = .ok (.ifCond .eq 5, 3) := by decide +kernel
theorem dX6_apply_41 : decode cX6_apply 41 = .ok (.iconst (-1), 1) := by decide +kernel
theorem dX6_apply_42 : decode cX6_apply 42 = .ok (.ireturn, 1) := by decide +kernel
theorem dX6_apply_43 : decode cX6_apply 43 = .ok (.iload_n 1, 1) := by decide +kernel
theorem dX6_apply_44 : decode cX6_apply 44 = .ok (.iconst 3, 1) := by decide +kernel
theorem dX6_apply_45 : decode cX6_apply 45 = .ok (.if_icmp .ne 17, 3) := by decide +kernel
theorem dX6_apply_48 : decode cX6_apply 48 = .ok (.aload_n 0, 1) := by decide +kernel
theorem dX6_apply_49 : decode cX6_apply 49 = .ok (.getfield 30, 3) := by decide +kernel
theorem dX6_apply_52 : decode cX6_apply 52 = .ok (.iload_n 3, 1) := by decide +kernel
theorem dX6_apply_53 : decode cX6_apply 53 = .ok (.invokevirtual 67, 3) := by decide +kernel
theorem dX6_apply_56 : decode cX6_apply 56 = .ok (.ifCond .eq 6, 3) := by decide +kernel
theorem dX6_apply_59 : decode cX6_apply 59 = .ok (.bipush (-2), 2) := by decide +kernel
theorem dX6_apply_61 : decode cX6_apply 61 = .ok (.ireturn, 1) := by decide +kernel
theorem dX6_apply_62 : decode cX6_apply 62 = .ok (.aload_n 0, 1) := by decide +kernel
theorem dX6_apply_63 : decode cX6_apply 63 = .ok (.getfield 30, 3) := by decide +kernel
theorem dX6_apply_66 : decode cX6_apply 66 = .ok (.getfield 70, 3) := by decide +kernel
theorem dX6_apply_69 : decode cX6_apply 69 = .ok (.iload_n 2, 1) := by decide +kernel
theorem dX6_apply_70 : decode cX6_apply 70 = .ok (.iaload, 1) := by decide +kernel
theorem dX6_apply_71 : decode cX6_apply 71 = .ok (.aload_n 0, 1) := by decide +kernel
theorem dX6_apply_72 : decode cX6_apply 72 = .ok (.getfield 30, 3) := by decide +kernel
theorem dX6_apply_75 : decode cX6_apply 75 = .ok (.getfield 70, 3) := by decide +kernel
theorem dX6_apply_78 : decode cX6_apply 78 = .ok (.iload_n 3, 1) := by decide +kernel
theorem dX6_apply_79 : decode cX6_apply 79 = .ok (.iaload, 1) := by decide +kernel
theorem dX6_apply_80 : decode cX6_apply 80 = .ok (.invokestatic 74, 3) := by decide +kernel
theorem dX6_apply_83 : decode cX6_apply 83 = .ok (.istore 4, 2) := by decide +kernel
theorem dX6_apply_85 : decode cX6_apply 85 = .ok (.aload_n 0, 1) := by decide +kernel
theorem dX6_apply_86 : decode cX6_apply 86 = .ok (.getfield 30, 3) := by decide +kernel
theorem dX6_apply_89 : decode cX6_apply 89 = .ok (.iload 4, 2) := by decide +kernel
theorem dX6_apply_91 : decode cX6_apply 91 = .ok (.iload_n 2, 1) := by decide +kernel
theorem dX6_apply_92 : decode cX6_apply 92 = .ok (.invokevirtual 79, 3) := by decide +kernel
theorem dX6_apply_95 : decode cX6_apply 95 = .ok (.istore 5, 2) := by decide +kernel
theorem dX6_apply_97 : decode cX6_apply 97 = .ok (.aload_n 0, 1) := by decide +kernel
theorem dX6_apply_98 : decode cX6_apply 98 = .ok (.getfield 30, 3) := by decide +kernel
theorem dX6_plain_0 : decode cX6_plain 0 = .ok (.aload_n 0, 1) := by decide +kernel
theorem dX6_plain_1 : decode cX6_plain 1 = .ok (.getfield 30, 3) := by decide +kernel
theorem dX6_plain_4 : decode cX6_plain 4 = .ok (.iload_n 1, 1) := by decide +kernel
theorem dX6_plain_5 : decode cX6_plain 5 = .ok (.invokevirtual 63, 3) := by decide +kernel
theorem dX6_plain_8 : decode cX6_plain 8 = .ok (.ifCond .eq 13, 3) := by decide +kernel
theorem dX6_plain_11 : decode cX6_plain 11 = .ok (.aload_n 0, 1) := by decide +kernel
theorem dX6_plain_12 : decode cX6_plain 12 = .ok (.getfield 30, 3) := by decide +kernel
theorem dX6_plain_15 : decode cX6_plain 15 = .ok (.invokevirtual 51, 3) := by decide +kernel
theorem dX6_plain_18 : decode cX6_plain 18 = .ok (.ifCond .eq 5, 3) := by decide +kernel
theorem dX6_plain_21 : decode cX6_plain 21 = .ok (.iconst (-1), 1) := by decide +kernel
theorem dX6_plain_22 : decode cX6_plain 22 = .ok (.ireturn, 1) := by decide +kernel
theorem dX6_plain_23 : decode cX6_plain 23 = .ok (.aload_n 0, 1) := by decide +kernel
theorem dX6_plain_24 : decode cX6_plain 24 = .ok (.getfield 30, 3) := by decide +kernel
theorem dX6_plain_27 : decode cX6_plain 27 = .ok (.iload_n 1, 1) := by decide +kernel
theorem dX6_plain_28 : decode cX6_plain 28 = .ok (.invokevirtual 67, 3) := by decide +kernel
theorem dX6_plain_31 : decode cX6_plain 31 = .ok (.ifCond .eq 11, 3) := by decide +kernel
theorem dX6_plain_34 : decode cX6_plain 34 = .ok (.new 93, 3) := by decide +kernel
theorem dX6_plain_37 : decode cX6_plain 37 = .ok (.dup, 1) := by decide +kernel
theorem dX6_plain_38 : decode cX6_plain 38 = .ok (.invokespecial 95, 3) := by decide +kernel
theorem dX6_plain_41 : decode cX6_plain 41 = .ok (.athrow, 1) := by decide +kernel
theorem dX6_plain_42 : decode cX6_plain 42 = .ok (.aload_n 0, 1) := by decide +kernel
theorem dX6_plain_43 : decode cX6_plain 43 = .ok (.getfield 30, 3) := by decide +kernel
theorem dX6_plain_46 : decode cX6_plain 46 = .ok (.getfield 70, 3) := by decide +kernel
theorem dX6_plain_49 : decode cX6_plain 49 = .ok (.iload_n 1, 1) := by decide +kernel
theorem dX6_plain_50 : decode cX6_plain 50 = .ok (.iaload, 1) := by decide +kernel
theorem dX6_plain_51 : decode cX6_plain 51 = .ok (.istore_n 2, 1) := by decide +kernel
theorem dX6_plain_52 : decode cX6_plain 52 = .ok (.aload_n 0, 1) := by decide +kernel
theorem dX6_plain_53 : decode cX6_plain 53 = .ok (.getfield 21, 3) := by decide +kernel
theorem dX6_plain_56 : decode cX6_plain 56 = .ok (.iload_n 2, 1) := by decide +kernel
theorem dX6_plain_57 : decode cX6_plain 57 = .ok (.iconst 0, 1) := by decide +kernel
theorem dX6_plain_58 : decode cX6_plain 58 = .ok (.invokevirtual 96, 3) := by decide +kernel
theorem dX6_plain_61 : decode cX6_plain 61 = .ok (.istore_n 3, 1) := by decide +kernel
theorem dX6_plain_62 : decode cX6_plain 62 = .ok (.aload_n 0, 1) := by decide +kernel
theorem dX6_plain_63 : decode cX6_plain 63 = .ok (.getfield 30, 3) := by decide +kernel
theorem dX6_plain_66 : decode cX6_plain 66 = .ok (.iload_n 2, 1) := by decide +kernel
theorem dX6_plain_67 : decode cX6_plain 67 = .ok (.aload_n 0, 1) := by decide +kernel
theorem dX6_plain_68 : decode cX6_plain 68 = .ok (.getfield 21, 3) := by decide +kernel
theorem dX6_plain_71 : decode cX6_plain 71 = .ok (.iload_n 2, 1) := by decide +kernel
theorem dX6_plain_72 : decode cX6_plain 72 = .ok (.iload_n 3, 1) := by decide +kernel
theorem dX6_plain_73 : decode cX6_plain 73 = .ok (.aload_n 0, 1) := by decide +kernel
theorem dX6_plain_74 : decode cX6_plain 74 = .ok (.getfield 30, 3) := by decide +kernel
theorem dX6_plain_77 : decode cX6_plain 77 = .ok (.getfield 99, 3) := by decide +kernel
theorem dX6_plain_80 : decode cX6_plain 80 = .ok (.iload_n 1, 1) := by decide +kernel
theorem dX6_plain_81 : decode cX6_plain 81 = .ok (.iaload, 1) := by decide +kernel
theorem dX6_plain_82 : decode cX6_plain 82 = .ok (.invokevirtual 86, 3) := by decide +kernel
theorem dX6_plain_85 : decode cX6_plain 85 = .ok (.invokevirtual 59, 3) := by decide +kernel
theorem dX6_plain_88 : decode cX6_plain 88 = .ok (.ireturn, 1) := by decide +kernel
theorem dX6_root_0 : decode cX6_root 0 = .ok (.aload_n 0, 1) := by decide +kernel
theorem dX6_root_1 : decode cX6_root 1 = .ok (.getfield 30, 3) := by decide +kernel
theorem dX6_root_4 : decode cX6_root 4 = .ok (.iload_n 1, 1) := by decide +kernel
theorem dX6_root_5 : decode cX6_root 5 = .ok (.invokevirtual 63, 3) := by decide +kernel
theorem dX6_root_8 : decode cX6_root 8 = .ok (.ifCond .eq 13, 3) := by decide +kernel
theorem dX6_root_11 : decode cX6_root 11 = .ok (.aload_n 0, 1) := by decide +kernel
theorem dX6_root_12 : decode cX6_root 12 = .ok (.getfield 30, 3) := by decide +kernel
theorem dX6_root_15 : decode cX6_root 15 = .ok (.invokevirtual 51, 3) := by decide +kernel
theorem dX6_root_18 : decode cX6_root 18 = .ok (.ifCond .eq 5, 3) := by decide +kernel
theorem dX6_root_21 : decode cX6_root 21 = .ok (.iconst (-1), 1) := by decide +kernel
theorem dX6_root_22 : decode cX6_root 22 = .ok (.ireturn, 1) := by decide +kernel
theorem dX6_root_23 : decode cX6_root 23 = .ok (.aload_n 0, 1) := by decide +kernel
theorem dX6_root_24 : decode cX6_root 24 = .ok (.getfield 30, 3) := by decide +kernel
theorem dX6_root_27 : decode cX6_root 27 = .ok (.aload_n 0, 1) := by decide +kernel
theorem dX6_root_28 : decode cX6_root 28 = .ok (.getfield 30, 3) := by decide +kernel
theorem dX6_root_31 : decode cX6_root 31 = .ok (.getfield 70, 3) := by decide +kernel
theorem dX6_root_34 : decode cX6_root 34 = .ok (.iload_n 1, 1) := by decide +kernel
theorem dX6_root_35 : decode cX6_root 35 = .ok (.iaload, 1) := by decide +kernel
theorem dX6_root_36 : decode cX6_root 36 = .ok (.aload_n 0, 1) := by decide +kernel
theorem dX6_root_37 : decode cX6_root 37 = .ok (.getfield 10, 3) := by decide +kernel
theorem dX6_root_40 : decode cX6_root 40 = .ok (.aload_n 0, 1) := by decide +kernel
theorem dX6_root_41 : decode cX6_root 41 = .ok (.getfield 30, 3) := by decide +kernel
theorem dX6_root_44 : decode cX6_root 44 = .ok (.getfield 99, 3) := by decide +kernel
theorem dX6_root_47 : decode cX6_root 47 = .ok (.iload_n 1, 1) := by decide +kernel
theorem dX6_root_48 : decode cX6_root 48 = .ok (.iaload, 1) := by decide +kernel
theorem dX6_root_49 : decode cX6_root 49 = .ok (.invokevirtual 102, 3) := by decide +kernel
theorem dX6_root_52 : decode cX6_root 52 = .ok (.invokevirtual 106, 3) := by decide +kernel
theorem dX6_root_55 : decode cX6_root 55 = .ok (.ifCond .ge 6, 3) := by decide +kernel
theorem dX6_root_58 : decode cX6_root 58 = .ok (.bipush (-3), 2) := by decide +kernel
theorem dX6_root_60 : decode cX6_root 60 = .ok (.ireturn, 1) := by decide +kernel
theorem dX6_root_61 : decode cX6_root 61 = .ok (.aload_n 0, 1) := by decide +kernel
theorem dX6_root_62 : decode cX6_root 62 = .ok (.getfield 21, 3) := by decide +kernel
theorem dX6_root_65 : decode cX6_root 65 = .ok (.getfield 109, 3) := by decide +kernel
theorem dX6_root_68 : decode cX6_root 68 = .ok (.istore_n 2, 1) := by decide +kernel
theorem dX6_root_69 : decode cX6_root 69 = .ok (.aload_n 0, 1) := by decide +kernel
theorem dX6_root_70 : decode cX6_root 70 = .ok (.getfield 21, 3) := by decide +kernel
theorem dX6_root_73 : decode cX6_root 73 = .ok (.iload_n 2, 1) := by decide +kernel
theorem dX6_root_74 : decode cX6_root 74 = .ok (.aload_n 0, 1) := by decide +kernel
theorem dX6_root_75 : decode cX6_root 75 = .ok (.getfield 30, 3) := by decide +kernel
theorem dX6_root_78 : decode cX6_root 78 = .ok (.iload_n 2, 1) := by decide +kernel
theorem dX6_root_79 : decode cX6_root 79 = .ok (.iload_n 1, 1) := by decide +kernel
theorem dX6_root_80 : decode cX6_root 80 = .ok (.invokevirtual 79, 3) := by decide +kernel
theorem dX6_root_83 : decode cX6_root 83 = .ok (.invokevirtual 113, 3) := by decide +kernel
theorem dX6_root_86 : decode cX6_root 86 = .ok (.istore_n 3, 1) := by decide +kernel
theorem dX6_root_87 : decode cX6_root 87 = .ok (.iload_n 3, 1) := by decide +kernel
theorem dX6_root_88 : decode cX6_root 88 = .ok (.ifCond .ge 18, 3) := by decide +kernel
theorem dX6_root_91 : decode cX6_root 91 = .ok (.iload_n 2, 1) := by decide +kernel
theorem dX6_root_92 : decode cX6_root 92 = .ok (.iconst 4, 1) := by decide +kernel
theorem dX6_root_93 : decode cX6_root 93 = .ok (.if_icmp .lt 13, 3) := by decide +kernel
theorem dX6_root_96 : decode cX6_root 96 = .ok (.aload_n 0, 1) := by decide +kernel
theorem dX6_root_97 : decode cX6_root 97 = .ok (.getfield 10, 3) := by decide +kernel
theorem dX6_root_100 : decode cX6_root 100 = .ok (.invokevirtual 116, 3) := by decide +kernel
theorem dX6_isSquare_0 : decode cX6_isSquare 0 = .ok (.aload_n 0, 1) := by decide +kernel
theorem dX6_isSquare_1 : decode cX6_isSquare 1 = .ok (.getfield 30, 3) := by decide +kernel
theorem dX6_isSquare_4 : decode cX6_isSquare 4 = .ok (.iload_n 1, 1) := by decide +kernel
theorem dX6_isSquare_5 : decode cX6_isSquare 5 = .ok (.invokevirtual 63, 3) := by decide +kernel
theorem dX6_isSquare_8 : decode cX6_isSquare 8 = .ok (.ifCond .ne 5, 3) := by decide +kernel
theorem dX6_isSquare_11 : decode cX6_isSquare 11 = .ok (.iconst (-1), 1) := by decide +kernel
theorem dX6_isSquare_12 : decode cX6_isSquare 12 = .ok (.ireturn, 1) := by decide +kernel
theorem dX6_isSquare_13 : decode cX6_isSquare 13 = .ok (.aload_n 0, 1) := by decide +kernel
theorem dX6_isSquare_14 : decode cX6_isSquare 14 = .ok (.getfield 21, 3) := by decide +kernel
theorem dX6_isSquare_17 : decode cX6_isSquare 17 = .ok (.getfield 109, 3) := by decide +kernel
theorem dX6_isSquare_20 : decode cX6_isSquare 20 = .ok (.istore_n 2, 1) := by decide +kernel
theorem dX6_isSquare_21 : decode cX6_isSquare 21 = .ok (.aload_n 0, 1) := by decide +kernel
theorem dX6_isSquare_22 : decode cX6_isSquare 22 = .ok (.getfield 21, 3) := by decide +kernel
theorem dX6_isSquare_25 : decode cX6_isSquare 25 = .ok (.iload_n 2, 1) := by decide +kernel
theorem dX6_isSquare_26 : decode cX6_isSquare 26 = .ok (.aload_n 0, 1) := by decide +kernel
theorem dX6_isSquare_27 : decode cX6_isSquare 27 = .ok (.getfield 30, 3) := by decide +kernel
theorem dX6_isSquare_30 : decode cX6_isSquare 30 = .ok (.iload_n 2, 1) := by decide +kernel
theorem dX6_isSquare_31 : decode cX6_isSquare 31 = .ok (.iload_n 1, 1) := by decide +kernel
theorem dX6_isSquare_32 : decode cX6_isSquare 32 = .ok (.invokevirtual 79, 3) := by decide +kernel
theorem dX6_isSquare_35 : decode cX6_isSquare 35 = .ok (.invokevirtual 113, 3) := by decide +kernel
theorem dX6_isSquare_38 : decode cX6_isSquare 38 = .ok (.istore_n 3, 1) := by decide +kernel
theorem dX6_isSquare_39 : decode cX6_isSquare 39 = .ok (.aload_n 0, 1) := by decide +kernel
theorem dX6_isSquare_40 : decode cX6_isSquare 40 = .ok (.getfield 10, 3) := by decide +kernel
theorem dX6_isSquare_43 : decode cX6_isSquare 43 = .ok (.invokevirtual 116, 3) := by decide +kernel
theorem dX6_isSquare_46 : decode cX6_isSquare 46 = .ok (.iload_n 3, 1) := by decide +kernel
theorem dX6_isSquare_47 : decode cX6_isSquare 47 = .ok (.ifCond .ge 7, 3) := by decide +kernel
theorem dX6_isSquare_50 : decode cX6_isSquare 50 = .ok (.iconst 0, 1) := by decide +kernel
theorem dX6_isSquare_51 : decode cX6_isSquare 51 = .ok (.goto 4, 3) := by decide +kernel
theorem dX6_isSquare_54 : decode cX6_isSquare 54 = .ok (.iconst 1, 1) := by decide +kernel
theorem dX6_isSquare_55 : decode cX6_isSquare 55 = .ok (.ireturn, 1) := by decide +kernel
theorem dX6_sign_0 : decode cX6_sign 0 = .ok (.aload_n 0, 1) := by decide +kernel
theorem dX6_sign_1 : decode cX6_sign 1 = .ok (.getfield 30, 3) := by decide +kernel
theorem dX6_sign_4 : decode cX6_sign 4 = .ok (.iload_n 1, 1) := by decide +kernel
theorem dX6_sign_5 : decode cX6_sign 5 = .ok (.invokevirtual 63, 3) := by decide +kernel
theorem dX6_sign_8 : decode cX6_sign 8 = .ok (.ifCond .ne 6, 3) := by decide +kernel
theorem dX6_sign_11 : decode cX6_sign 11 = .ok (.bipush (-2), 2) := by decide +kernel
theorem dX6_sign_13 : decode cX6_sign 13 = .ok (.ireturn, 1) := by decide +kernel
theorem dX6_sign_14 : decode cX6_sign 14 = .ok (.aload_n 0, 1) := by decide +kernel
theorem dX6_sign_15 : decode cX6_sign 15 = .ok (.getfield 30, 3) := by decide +kernel
theorem dX6_sign_18 : decode cX6_sign 18 = .ok (.aload_n 0, 1) := by decide +kernel
theorem dX6_sign_19 : decode cX6_sign 19 = .ok (.getfield 30, 3) := by decide +kernel
theorem dX6_sign_22 : decode cX6_sign 22 = .ok (.getfield 70, 3) := by decide +kernel
theorem dX6_sign_25 : decode cX6_sign 25 = .ok (.iload_n 1, 1) := by decide +kernel
theorem dX6_sign_26 : decode cX6_sign 26 = .ok (.iaload, 1) := by decide +kernel
theorem dX6_sign_27 : decode cX6_sign 27 = .ok (.aload_n 0, 1) := by decide +kernel
theorem dX6_sign_28 : decode cX6_sign 28 = .ok (.getfield 10, 3) := by decide +kernel
theorem dX6_sign_31 : decode cX6_sign 31 = .ok (.aload_n 0, 1) := by decide +kernel
theorem dX6_sign_32 : decode cX6_sign 32 = .ok (.getfield 30, 3) := by decide +kernel
theorem dX6_sign_35 : decode cX6_sign 35 = .ok (.getfield 99, 3) := by decide +kernel
theorem dX6_sign_38 : decode cX6_sign 38 = .ok (.iload_n 1, 1) := by decide +kernel
theorem dX6_sign_39 : decode cX6_sign 39 = .ok (.iaload, 1) := by decide +kernel
theorem dX6_sign_40 : decode cX6_sign 40 = .ok (.invokevirtual 102, 3) := by decide +kernel
theorem dX6_sign_43 : decode cX6_sign 43 = .ok (.invokevirtual 106, 3) := by decide +kernel
theorem dX6_sign_46 : decode cX6_sign 46 = .ok (.ireturn, 1) := by decide +kernel
theorem dX6_compare_0 : decode cX6_compare 0 = .ok (.aload_n 0, 1) := by decide +kernel
theorem dX6_compare_1 : decode cX6_compare 1 = .ok (.getfield 30, 3) := by decide +kernel
theorem dX6_compare_4 : decode cX6_compare 4 = .ok (.iload_n 1, 1) := by decide +kernel
theorem dX6_compare_5 : decode cX6_compare 5 = .ok (.invokevirtual 63, 3) := by decide +kernel
theorem dX6_compare_8 : decode cX6_compare 8 = .ok (.ifCond .eq 14, 3) := by decide +kernel
theorem dX6_compare_11 : decode cX6_compare 11 = .ok (.aload_n 0, 1) := by decide +kernel
theorem dX6_compare_12 : decode cX6_compare 12 = .ok (.getfield 30, 3) := by decide +kernel
theorem dX6_compare_15 : decode cX6_compare 15 = .ok (.iload_n 2, 1) := by decide +kernel
theorem dX6_compare_16 : decode cX6_compare 16 = .ok (.invokevirtual 63, 3) := by decide +kernel
theorem dX6_compare_19 : decode cX6_compare 19 = .ok (.ifCond .ne 6, 3) := by decide +kernel
theorem dX6_compare_22 : decode cX6_compare 22 = .ok (.bipush (-2), 2) := by decide +kernel
theorem dX6_compare_24 : decode cX6_compare 24 = .ok (.ireturn, 1) := by decide +kernel
theorem dX6_compare_25 : decode cX6_compare 25 = .ok (.aload_n 0, 1) := by decide +kernel
theorem dX6_compare_26 : decode cX6_compare 26 = .ok (.getfield 30, 3) := by decide +kernel
theorem dX6_compare_29 : decode cX6_compare 29 = .ok (.getfield 70, 3) := by decide +kernel
theorem dX6_compare_32 : decode cX6_compare 32 = .ok (.iload_n 1, 1) := by decide +kernel
theorem dX6_compare_33 : decode cX6_compare 33 = .ok (.iaload, 1) := by decide +kernel
theorem dX6_compare_34 : decode cX6_compare 34 = .ok (.aload_n 0, 1) := by decide +kernel
theorem dX6_compare_35 : decode cX6_compare 35 = .ok (.getfield 30, 3) := by decide +kernel
theorem dX6_compare_38 : decode cX6_compare 38 = .ok (.getfield 70, 3) := by decide +kernel
theorem dX6_compare_41 : decode cX6_compare 41 = .ok (.iload_n 2, 1) := by decide +kernel
theorem dX6_compare_42 : decode cX6_compare 42 = .ok (.iaload, 1) := by decide +kernel
theorem dX6_compare_43 : decode cX6_compare 43 = .ok (.invokestatic 74, 3) := by decide +kernel
theorem dX6_compare_46 : decode cX6_compare 46 = .ok (.istore_n 3, 1) := by decide +kernel
theorem dX6_compare_47 : decode cX6_compare 47 = .ok (.aload_n 0, 1) := by decide +kernel
theorem dX6_compare_48 : decode cX6_compare 48 = .ok (.getfield 30, 3) := by decide +kernel
theorem dX6_compare_51 : decode cX6_compare 51 = .ok (.iload_n 3, 1) := by decide +kernel
theorem dX6_compare_52 : decode cX6_compare 52 = .ok (.iload_n 1, 1) := by decide +kernel
theorem dX6_compare_53 : decode cX6_compare 53 = .ok (.invokevirtual 79, 3) := by decide +kernel
theorem dX6_compare_56 : decode cX6_compare 56 = .ok (.istore 4, 2) := by decide +kernel
theorem dX6_compare_58 : decode cX6_compare 58 = .ok (.aload_n 0, 1) := by decide +kernel
theorem dX6_compare_59 : decode cX6_compare 59 = .ok (.getfield 30, 3) := by decide +kernel
theorem dX6_compare_62 : decode cX6_compare 62 = .ok (.iload_n 3, 1) := by decide +kernel
theorem dX6_compare_63 : decode cX6_compare 63 = .ok (.iload_n 2, 1) := by decide +kernel
theorem dX6_compare_64 : decode cX6_compare 64 = .ok (.invokevirtual 79, 3) := by decide +kernel
theorem dX6_compare_67 : decode cX6_compare 67 = .ok (.istore 5, 2) := by decide +kernel
theorem dX6_compare_69 : decode cX6_compare 69 = .ok (.aload_n 0, 1) := by decide +kernel
theorem dX6_compare_70 : decode cX6_compare 70 = .ok (.getfield 21, 3) := by decide +kernel
theorem dX6_compare_73 : decode cX6_compare 73 = .ok (.iload_n 3, 1) := by decide +kernel
theorem dX6_compare_74 : decode cX6_compare 74 = .ok (.iload 4, 2) := by decide +kernel
theorem dX6_compare_76 : decode cX6_compare 76 = .ok (.iload 5, 2) := by decide +kernel
theorem dX6_compare_78 : decode cX6_compare 78 = .ok (.iconst (-1), 1) := by decide +kernel
theorem dX6_compare_79 : decode cX6_compare 79 = .ok (.invokevirtual 89, 3) := by decide +kernel
theorem dX6_compare_82 : decode cX6_compare 82 = .ok (.istore 6, 2) := by decide +kernel
theorem dX6_compare_84 : decode cX6_compare 84 = .ok (.aload_n 0, 1) := by decide +kernel
theorem dX6_compare_85 : decode cX6_compare 85 = .ok (.getfield 30, 3) := by decide +kernel
theorem dX6_compare_88 : decode cX6_compare 88 = .ok (.iload_n 3, 1) := by decide +kernel
theorem dX6_compare_89 : decode cX6_compare 89 = .ok (.aload_n 0, 1) := by decide +kernel
theorem dX6_compare_90 : decode cX6_compare 90 = .ok (.getfield 10, 3) := by decide +kernel
theorem dX6_compare_93 : decode cX6_compare 93 = .ok (.iload 6, 2) := by decide +kernel
theorem dX6_compare_95 : decode cX6_compare 95 = .ok (.invokevirtual 102, 3) := by decide +kernel
theorem dX6_compare_98 : decode cX6_compare 98 = .ok (.invokevirtual 106, 3) := by decide +kernel
theorem dX6_level_0 : decode cX6_level 0 = .ok (.aload_n 0, 1) := by decide +kernel
theorem dX6_level_1 : decode cX6_level 1 = .ok (.getfield 30, 3) := by decide +kernel
theorem dX6_level_4 : decode cX6_level 4 = .ok (.iload_n 1, 1) := by decide +kernel
theorem dX6_level_5 : decode cX6_level 5 = .ok (.invokevirtual 63, 3) := by decide +kernel
theorem dX6_level_8 : decode cX6_level 8 = .ok (.ifCond .eq 15, 3) := by decide +kernel
theorem dX6_level_11 : decode cX6_level 11 = .ok (.aload_n 0, 1) := by decide +kernel
theorem dX6_level_12 : decode cX6_level 12 = .ok (.getfield 30, 3) := by decide +kernel
theorem dX6_level_15 : decode cX6_level 15 = .ok (.getfield 70, 3) := by decide +kernel
theorem dX6_level_18 : decode cX6_level 18 = .ok (.iload_n 1, 1) := by decide +kernel
theorem dX6_level_19 : decode cX6_level 19 = .ok (.iaload, 1) := by decide +kernel
theorem dX6_level_20 : decode cX6_level 20 = .ok (.goto 4, 3) := by decide +kernel
theorem dX6_level_23 : decode cX6_level 23 = .ok (.iconst (-1), 1) := by decide +kernel
theorem dX6_level_24 : decode cX6_level 24 = .ok (.ireturn, 1) := by decide +kernel
theorem dX6_coordinate_0 : decode cX6_coordinate 0 = .ok (.aload_n 0, 1) := by decide +kernel
theorem dX6_coordinate_1 : decode cX6_coordinate 1 = .ok (.getfield 30, 3) := by decide +kernel
theorem dX6_coordinate_4 : decode cX6_coordinate 4 = .ok (.iload_n 1, 1) := by decide +kernel
theorem dX6_coordinate_5 : decode cX6_coordinate 5 = .ok (.invokevirtual 63, 3) := by decide +kernel
theorem dX6_coordinate_8 : decode cX6_coordinate 8 = .ok (.ifCond .eq 20, 3) := by decide +kernel
theorem dX6_coordinate_11 : decode cX6_coordinate 11 = .ok (.iload_n 2, 1) := by decide +kernel
theorem dX6_coordinate_12 : decode cX6_coordinate 12 = .ok (.ifCond .lt 16, 3) := by decide +kernel
theorem dX6_coordinate_15 : decode cX6_coordinate 15 = .ok (.iload_n 2, 1) := by decide +kernel
theorem dX6_coordinate_16 : decode cX6_coordinate 16 = .ok (.iconst 1, 1) := by decide +kernel
theorem dX6_coordinate_17 : decode cX6_coordinate 17 = .ok (.aload_n 0, 1) := by decide +kernel
theorem dX6_coordinate_18 : decode cX6_coordinate 18 = .ok (.getfield 21, 3) := by decide +kernel
theorem dX6_coordinate_21 : decode cX6_coordinate 21 = .ok (.getfield 109, 3) := by decide +kernel
theorem dX6_coordinate_24 : decode cX6_coordinate 24 = .ok (.ishl, 1) := by decide +kernel
theorem dX6_coordinate_25 : decode cX6_coordinate 25 = .ok (.if_icmp .lt 5, 3) := by decide +kernel
theorem dX6_coordinate_28 : decode cX6_coordinate 28 = .ok (.iconst (-1), 1) := by decide +kernel
theorem dX6_coordinate_29 : decode cX6_coordinate 29 = .ok (.ireturn, 1) := by decide +kernel
theorem dX6_coordinate_30 : decode cX6_coordinate 30 = .ok (.aload_n 0, 1) := by decide +kernel
theorem dX6_coordinate_31 : decode cX6_coordinate 31 = .ok (.aload_n 0, 1) := by decide +kernel
theorem dX6_coordinate_32 : decode cX6_coordinate 32 = .ok (.getfield 30, 3) := by decide +kernel
theorem dX6_coordinate_35 : decode cX6_coordinate 35 = .ok (.iload_n 1, 1) := by decide +kernel
theorem dX6_coordinate_36 : decode cX6_coordinate 36 = .ok (.iload_n 2, 1) := by decide +kernel
theorem dX6_coordinate_37 : decode cX6_coordinate 37 = .ok (.invokevirtual 126, 3) := by decide +kernel
theorem dX6_coordinate_40 : decode cX6_coordinate 40 = .ok (.invokevirtual 129, 3) := by decide +kernel
theorem dX6_coordinate_43 : decode cX6_coordinate 43 = .ok (.ireturn, 1) := by decide +kernel
theorem dX6_radicand_0 : decode cX6_radicand 0 = .ok (.iload_n 1, 1) := by decide +kernel
theorem dX6_radicand_1 : decode cX6_radicand 1 = .ok (.iconst 1, 1) := by decide +kernel
theorem dX6_radicand_2 : decode cX6_radicand 2 = .ok (.if_icmp .lt 27, 3) := by decide +kernel
theorem dX6_radicand_5 : decode cX6_radicand 5 = .ok (.iload_n 1, 1) := by decide +kernel
theorem dX6_radicand_6 : decode cX6_radicand 6 = .ok (.aload_n 0, 1) := by decide +kernel
theorem dX6_radicand_7 : decode cX6_radicand 7 = .ok (.getfield 21, 3) := by decide +kernel
theorem dX6_radicand_10 : decode cX6_radicand 10 = .ok (.getfield 109, 3) := by decide +kernel
theorem dX6_radicand_13 : decode cX6_radicand 13 = .ok (.if_icmp .gt 16, 3) := by decide +kernel
theorem dX6_radicand_16 : decode cX6_radicand 16 = .ok (.iload_n 2, 1) := by decide +kernel
theorem dX6_radicand_17 : decode cX6_radicand 17 = .ok (.ifCond .lt 12, 3) := by decide +kernel
theorem dX6_radicand_20 : decode cX6_radicand 20 = .ok (.iload_n 2, 1) := by decide +kernel
theorem dX6_radicand_21 : decode cX6_radicand 21 = .ok (.iconst 1, 1) := by decide +kernel
theorem dX6_radicand_22 : decode cX6_radicand 22 = .ok (.iload_n 1, 1) := by decide +kernel
theorem dX6_radicand_23 : decode cX6_radicand 23 = .ok (.iconst 1, 1) := by decide +kernel
theorem dX6_radicand_24 : decode cX6_radicand 24 = .ok (.isub, 1) := by decide +kernel
theorem dX6_radicand_25 : decode cX6_radicand 25 = .ok (.ishl, 1) := by decide +kernel
theorem dX6_radicand_26 : decode cX6_radicand 26 = .ok (.if_icmp .lt 5, 3) := by decide +kernel
theorem dX6_radicand_29 : decode cX6_radicand 29 = .ok (.iconst (-1), 1) := by decide +kernel
theorem dX6_radicand_30 : decode cX6_radicand 30 = .ok (.ireturn, 1) := by decide +kernel
theorem dX6_radicand_31 : decode cX6_radicand 31 = .ok (.aload_n 0, 1) := by decide +kernel
theorem dX6_radicand_32 : decode cX6_radicand 32 = .ok (.aload_n 0, 1) := by decide +kernel
theorem dX6_radicand_33 : decode cX6_radicand 33 = .ok (.getfield 21, 3) := by decide +kernel
theorem dX6_radicand_36 : decode cX6_radicand 36 = .ok (.iload_n 1, 1) := by decide +kernel
theorem dX6_radicand_37 : decode cX6_radicand 37 = .ok (.iload_n 2, 1) := by decide +kernel
theorem dX6_radicand_38 : decode cX6_radicand 38 = .ok (.invokevirtual 132, 3) := by decide +kernel
theorem dX6_radicand_41 : decode cX6_radicand 41 = .ok (.invokevirtual 129, 3) := by decide +kernel
theorem dX6_radicand_44 : decode cX6_radicand 44 = .ok (.ireturn, 1) := by decide +kernel
theorem dX6_degree_0 : decode cX6_degree 0 = .ok (.aload_n 0, 1) := by decide +kernel
theorem dX6_degree_1 : decode cX6_degree 1 = .ok (.getfield 30, 3) := by decide +kernel
theorem dX6_degree_4 : decode cX6_degree 4 = .ok (.iload_n 1, 1) := by decide +kernel
theorem dX6_degree_5 : decode cX6_degree 5 = .ok (.invokevirtual 63, 3) := by decide +kernel
theorem dX6_degree_8 : decode cX6_degree 8 = .ok (.ifCond .ne 5, 3) := by decide +kernel
theorem dX6_degree_11 : decode cX6_degree 11 = .ok (.iconst (-1), 1) := by decide +kernel
theorem dX6_degree_12 : decode cX6_degree 12 = .ok (.ireturn, 1) := by decide +kernel
theorem dX6_degree_13 : decode cX6_degree 13 = .ok (.aload_n 0, 1) := by decide +kernel
theorem dX6_degree_14 : decode cX6_degree 14 = .ok (.getfield 37, 3) := by decide +kernel
theorem dX6_degree_17 : decode cX6_degree 17 = .ok (.iload_n 1, 1) := by decide +kernel
theorem dX6_degree_18 : decode cX6_degree 18 = .ok (.aload_n 0, 1) := by decide +kernel
theorem dX6_degree_19 : decode cX6_degree 19 = .ok (.getfield 30, 3) := by decide +kernel
theorem dX6_degree_22 : decode cX6_degree 22 = .ok (.getfield 70, 3) := by decide +kernel
theorem dX6_degree_25 : decode cX6_degree 25 = .ok (.iload_n 1, 1) := by decide +kernel
theorem dX6_degree_26 : decode cX6_degree 26 = .ok (.iaload, 1) := by decide +kernel
theorem dX6_degree_27 : decode cX6_degree 27 = .ok (.aload_n 0, 1) := by decide +kernel
theorem dX6_degree_28 : decode cX6_degree 28 = .ok (.getfield 30, 3) := by decide +kernel
theorem dX6_degree_31 : decode cX6_degree 31 = .ok (.getfield 99, 3) := by decide +kernel
theorem dX6_degree_34 : decode cX6_degree 34 = .ok (.iload_n 1, 1) := by decide +kernel
theorem dX6_degree_35 : decode cX6_degree 35 = .ok (.iaload, 1) := by decide +kernel
theorem dX6_degree_36 : decode cX6_degree 36 = .ok (.invokevirtual 135, 3) := by decide +kernel
theorem dX6_degree_39 : decode cX6_degree 39 = .ok (.aload_n 0, 1) := by decide +kernel
theorem dX6_degree_40 : decode cX6_degree 40 = .ok (.getfield 37, 3) := by decide +kernel
theorem dX6_degree_43 : decode cX6_degree 43 = .ok (.getfield 139, 3) := by decide +kernel
theorem dX6_degree_46 : decode cX6_degree 46 = .ok (.ireturn, 1) := by decide +kernel
theorem dX6_equation_0 : decode cX6_equation 0 = .ok (.aload_n 0, 1) := by decide +kernel
theorem dX6_equation_1 : decode cX6_equation 1 = .ok (.getfield 30, 3) := by decide +kernel
theorem dX6_equation_4 : decode cX6_equation 4 = .ok (.iload_n 1, 1) := by decide +kernel
theorem dX6_equation_5 : decode cX6_equation 5 = .ok (.invokevirtual 63, 3) := by decide +kernel
theorem dX6_equation_8 : decode cX6_equation 8 = .ok (.ifCond .eq 13, 3) := by decide +kernel
theorem dX6_equation_11 : decode cX6_equation 11 = .ok (.iload_n 2, 1) := by decide +kernel
theorem dX6_equation_12 : decode cX6_equation 12 = .ok (.ifCond .lt 9, 3) := by decide +kernel
theorem dX6_equation_15 : decode cX6_equation 15 = .ok (.iload_n 2, 1) := by decide +kernel
theorem dX6_equation_16 : decode cX6_equation 16 = .ok (.bipush 16, 2) := by decide +kernel
theorem dX6_equation_18 : decode cX6_equation 18 = .ok (.if_icmp .le 5, 3) := by decide +kernel
theorem dX6_equation_21 : decode cX6_equation 21 = .ok (.iconst (-1), 1) := by decide +kernel
theorem dX6_equation_22 : decode cX6_equation 22 = .ok (.ireturn, 1) := by decide +kernel
theorem dX6_equation_23 : decode cX6_equation 23 = .ok (.aload_n 0, 1) := by decide +kernel
theorem dX6_equation_24 : decode cX6_equation 24 = .ok (.getfield 37, 3) := by decide +kernel
theorem dX6_equation_27 : decode cX6_equation 27 = .ok (.iload_n 1, 1) := by decide +kernel
theorem dX6_equation_28 : decode cX6_equation 28 = .ok (.aload_n 0, 1) := by decide +kernel
theorem dX6_equation_29 : decode cX6_equation 29 = .ok (.getfield 30, 3) := by decide +kernel
theorem dX6_equation_32 : decode cX6_equation 32 = .ok (.getfield 70, 3) := by decide +kernel
theorem dX6_equation_35 : decode cX6_equation 35 = .ok (.iload_n 1, 1) := by decide +kernel
theorem dX6_equation_36 : decode cX6_equation 36 = .ok (.iaload, 1) := by decide +kernel
theorem dX6_equation_37 : decode cX6_equation 37 = .ok (.aload_n 0, 1) := by decide +kernel
theorem dX6_equation_38 : decode cX6_equation 38 = .ok (.getfield 30, 3) := by decide +kernel
theorem dX6_equation_41 : decode cX6_equation 41 = .ok (.getfield 99, 3) := by decide +kernel
theorem dX6_equation_44 : decode cX6_equation 44 = .ok (.iload_n 1, 1) := by decide +kernel
theorem dX6_equation_45 : decode cX6_equation 45 = .ok (.iaload, 1) := by decide +kernel
theorem dX6_equation_46 : decode cX6_equation 46 = .ok (.invokevirtual 135, 3) := by decide +kernel
theorem dX6_equation_49 : decode cX6_equation 49 = .ok (.iload_n 2, 1) := by decide +kernel
theorem dX6_equation_50 : decode cX6_equation 50 = .ok (.aload_n 0, 1) := by decide +kernel
theorem dX6_equation_51 : decode cX6_equation 51 = .ok (.getfield 37, 3) := by decide +kernel
theorem dX6_equation_54 : decode cX6_equation 54 = .ok (.getfield 139, 3) := by decide +kernel
theorem dX6_equation_57 : decode cX6_equation 57 = .ok (.if_icmp .le 5, 3) := by decide +kernel
theorem dX6_equation_60 : decode cX6_equation 60 = .ok (.iconst (-1), 1) := by decide +kernel
theorem dX6_equation_61 : decode cX6_equation 61 = .ok (.ireturn, 1) := by decide +kernel
theorem dX6_equation_62 : decode cX6_equation 62 = .ok (.aload_n 0, 1) := by decide +kernel
theorem dX6_equation_63 : decode cX6_equation 63 = .ok (.getfield 37, 3) := by decide +kernel
theorem dX6_equation_66 : decode cX6_equation 66 = .ok (.iload_n 2, 1) := by decide +kernel
theorem dX6_equation_67 : decode cX6_equation 67 = .ok (.aload_n 0, 1) := by decide +kernel
theorem dX6_equation_68 : decode cX6_equation 68 = .ok (.getfield 30, 3) := by decide +kernel
theorem dX6_equation_71 : decode cX6_equation 71 = .ok (.getfield 99, 3) := by decide +kernel
theorem dX6_equation_74 : decode cX6_equation 74 = .ok (.iload_n 1, 1) := by decide +kernel
theorem dX6_equation_75 : decode cX6_equation 75 = .ok (.iaload, 1) := by decide +kernel
theorem dX6_equation_76 : decode cX6_equation 76 = .ok (.invokevirtual 142, 3) := by decide +kernel
theorem dX6_equation_79 : decode cX6_equation 79 = .ok (.istore_n 3, 1) := by decide +kernel
theorem dX6_equation_80 : decode cX6_equation 80 = .ok (.aload_n 0, 1) := by decide +kernel
theorem dX6_equation_81 : decode cX6_equation 81 = .ok (.getfield 10, 3) := by decide +kernel
theorem dX6_equation_84 : decode cX6_equation 84 = .ok (.iload_n 3, 1) := by decide +kernel
theorem dX6_equation_85 : decode cX6_equation 85 = .ok (.sipush 400, 3) := by decide +kernel
theorem dX6_equation_88 : decode cX6_equation 88 = .ok (.invokevirtual 143, 3) := by decide +kernel
theorem dX6_equation_91 : decode cX6_equation 91 = .ok (.ifCond .eq 13, 3) := by decide +kernel
theorem dX6_equation_94 : decode cX6_equation 94 = .ok (.aload_n 0, 1) := by decide +kernel
theorem dX6_equation_95 : decode cX6_equation 95 = .ok (.getfield 10, 3) := by decide +kernel
theorem dX6_equation_98 : decode cX6_equation 98 = .ok (.invokevirtual 116, 3) := by decide +kernel
theorem dX6_cut_0 : decode cX6_cut 0 = .ok (.aload_n 0, 1) := by decide +kernel
theorem dX6_cut_1 : decode cX6_cut 1 = .ok (.getfield 30, 3) := by decide +kernel
theorem dX6_cut_4 : decode cX6_cut 4 = .ok (.iload_n 1, 1) := by decide +kernel
theorem dX6_cut_5 : decode cX6_cut 5 = .ok (.invokevirtual 63, 3) := by decide +kernel
theorem dX6_cut_8 : decode cX6_cut 8 = .ok (.ifCond .eq 13, 3) := by decide +kernel
theorem dX6_cut_11 : decode cX6_cut 11 = .ok (.iload_n 2, 1) := by decide +kernel
theorem dX6_cut_12 : decode cX6_cut 12 = .ok (.ifCond .lt 9, 3) := by decide +kernel
theorem dX6_cut_15 : decode cX6_cut 15 = .ok (.iload_n 2, 1) := by decide +kernel
theorem dX6_cut_16 : decode cX6_cut 16 = .ok (.bipush 6, 2) := by decide +kernel
theorem dX6_cut_18 : decode cX6_cut 18 = .ok (.if_icmp .le 5, 3) := by decide +kernel
theorem dX6_cut_21 : decode cX6_cut 21 = .ok (.iconst (-1), 1) := by decide +kernel
theorem dX6_cut_22 : decode cX6_cut 22 = .ok (.ireturn, 1) := by decide +kernel
theorem dX6_cut_23 : decode cX6_cut 23 = .ok (.aload_n 0, 1) := by decide +kernel
theorem dX6_cut_24 : decode cX6_cut 24 = .ok (.getfield 30, 3) := by decide +kernel
theorem dX6_cut_27 : decode cX6_cut 27 = .ok (.iload_n 1, 1) := by decide +kernel
theorem dX6_cut_28 : decode cX6_cut 28 = .ok (.aload_n 0, 1) := by decide +kernel
theorem dX6_cut_29 : decode cX6_cut 29 = .ok (.getfield 30, 3) := by decide +kernel
theorem dX6_cut_32 : decode cX6_cut 32 = .ok (.iload_n 1, 1) := by decide +kernel
theorem dX6_cut_33 : decode cX6_cut 33 = .ok (.iconst 0, 1) := by decide +kernel
theorem dX6_cut_34 : decode cX6_cut 34 = .ok (.invokevirtual 147, 3) := by decide +kernel
theorem dX6_cut_37 : decode cX6_cut 37 = .ok (.invokevirtual 150, 3) := by decide +kernel
theorem dX6_cut_40 : decode cX6_cut 40 = .ok (.ifCond .eq 12, 3) := by decide +kernel
theorem dX6_cut_43 : decode cX6_cut 43 = .ok (.aload_n 0, 1) := by decide +kernel
theorem dX6_cut_44 : decode cX6_cut 44 = .ok (.getfield 10, 3) := by decide +kernel
theorem dX6_cut_47 : decode cX6_cut 47 = .ok (.invokevirtual 116, 3) := by decide +kernel
theorem dX6_cut_50 : decode cX6_cut 50 = .ok (.iconst (-1), 1) := by decide +kernel
theorem dX6_cut_51 : decode cX6_cut 51 = .ok (.ireturn, 1) := by decide +kernel
theorem dX6_cut_52 : decode cX6_cut 52 = .ok (.aload_n 0, 1) := by decide +kernel
theorem dX6_cut_53 : decode cX6_cut 53 = .ok (.getfield 30, 3) := by decide +kernel
theorem dX6_cut_56 : decode cX6_cut 56 = .ok (.iload_n 1, 1) := by decide +kernel
theorem dX6_cut_57 : decode cX6_cut 57 = .ok (.iload_n 2, 1) := by decide +kernel
theorem dX6_cut_58 : decode cX6_cut 58 = .ok (.invokevirtual 147, 3) := by decide +kernel
theorem dX6_cut_61 : decode cX6_cut 61 = .ok (.istore_n 3, 1) := by decide +kernel
theorem dX6_cut_62 : decode cX6_cut 62 = .ok (.aload_n 0, 1) := by decide +kernel
theorem dX6_cut_63 : decode cX6_cut 63 = .ok (.getfield 10, 3) := by decide +kernel
theorem dX6_cut_66 : decode cX6_cut 66 = .ok (.getstatic 153, 3) := by decide +kernel
theorem dX6_cut_69 : decode cX6_cut 69 = .ok (.iload_n 2, 1) := by decide +kernel
theorem dX6_cut_70 : decode cX6_cut 70 = .ok (.iaload, 1) := by decide +kernel
theorem dX6_cut_71 : decode cX6_cut 71 = .ok (.i2l, 1) := by decide +kernel
theorem dX6_cut_72 : decode cX6_cut 72 = .ok (.invokevirtual 55, 3) := by decide +kernel
theorem dX6_cut_75 : decode cX6_cut 75 = .ok (.istore 4, 2) := by decide +kernel
theorem dX6_cut_77 : decode cX6_cut 77 = .ok (.aload_n 0, 1) := by decide +kernel
theorem dX6_cut_78 : decode cX6_cut 78 = .ok (.aload_n 0, 1) := by decide +kernel
theorem dX6_cut_79 : decode cX6_cut 79 = .ok (.getfield 10, 3) := by decide +kernel
theorem dX6_cut_82 : decode cX6_cut 82 = .ok (.iload_n 3, 1) := by decide +kernel
theorem dX6_cut_83 : decode cX6_cut 83 = .ok (.iload 4, 2) := by decide +kernel
theorem dX6_cut_85 : decode cX6_cut 85 = .ok (.invokevirtual 156, 3) := by decide +kernel
theorem dX6_cut_88 : decode cX6_cut 88 = .ok (.invokevirtual 129, 3) := by decide +kernel
theorem dX6_cut_91 : decode cX6_cut 91 = .ok (.ireturn, 1) := by decide +kernel
theorem dX6_denest_0 : decode cX6_denest 0 = .ok (.aload_n 0, 1) := by decide +kernel
theorem dX6_denest_1 : decode cX6_denest 1 = .ok (.getfield 30, 3) := by decide +kernel
theorem dX6_denest_4 : decode cX6_denest 4 = .ok (.iload_n 1, 1) := by decide +kernel
theorem dX6_denest_5 : decode cX6_denest 5 = .ok (.invokevirtual 63, 3) := by decide +kernel
theorem dX6_denest_8 : decode cX6_denest 8 = .ok (.ifCond .eq 25, 3) := by decide +kernel
theorem dX6_denest_11 : decode cX6_denest 11 = .ok (.iload_n 2, 1) := by decide +kernel
theorem dX6_denest_12 : decode cX6_denest 12 = .ok (.ifCond .lt 21, 3) := by decide +kernel
theorem dX6_denest_15 : decode cX6_denest 15 = .ok (.iload_n 2, 1) := by decide +kernel
theorem dX6_denest_16 : decode cX6_denest 16 = .ok (.iconst 1, 1) := by decide +kernel
theorem dX6_denest_17 : decode cX6_denest 17 = .ok (.if_icmp .gt 16, 3) := by decide +kernel
theorem dX6_denest_20 : decode cX6_denest 20 = .ok (.aload_n 0, 1) := by decide +kernel
theorem dX6_denest_21 : decode cX6_denest 21 = .ok (.getfield 30, 3) := by decide +kernel
theorem dX6_denest_24 : decode cX6_denest 24 = .ok (.getfield 70, 3) := by decide +kernel
theorem dX6_denest_27 : decode cX6_denest 27 = .ok (.iload_n 1, 1) := by decide +kernel
theorem dX6_denest_28 : decode cX6_denest 28 = .ok (.iaload, 1) := by decide +kernel
theorem dX6_denest_29 : decode cX6_denest 29 = .ok (.iconst 1, 1) := by decide +kernel
theorem dX6_denest_30 : decode cX6_denest 30 = .ok (.if_icmp .le 5, 3) := by decide +kernel
theorem dX6_denest_33 : decode cX6_denest 33 = .ok (.iconst (-1), 1) := by decide +kernel
theorem dX6_denest_34 : decode cX6_denest 34 = .ok (.ireturn, 1) := by decide +kernel
theorem dX6_denest_35 : decode cX6_denest 35 = .ok (.aload_n 0, 1) := by decide +kernel
theorem dX6_denest_36 : decode cX6_denest 36 = .ok (.getfield 30, 3) := by decide +kernel
theorem dX6_denest_39 : decode cX6_denest 39 = .ok (.iload_n 1, 1) := by decide +kernel
theorem dX6_denest_40 : decode cX6_denest 40 = .ok (.iload_n 2, 1) := by decide +kernel
theorem dX6_denest_41 : decode cX6_denest 41 = .ok (.ifCond .ne 7, 3) := by decide +kernel
theorem dX6_denest_44 : decode cX6_denest 44 = .ok (.iconst 1, 1) := by decide +kernel
theorem dX6_denest_45 : decode cX6_denest 45 = .ok (.goto 4, 3) := by decide +kernel
theorem dX6_denest_48 : decode cX6_denest 48 = .ok (.iconst (-1), 1) := by decide +kernel
theorem dX6_denest_49 : decode cX6_denest 49 = .ok (.invokevirtual 159, 3) := by decide +kernel
theorem dX6_denest_52 : decode cX6_denest 52 = .ok (.istore_n 3, 1) := by decide +kernel
theorem dX6_denest_53 : decode cX6_denest 53 = .ok (.iload_n 3, 1) := by decide +kernel
theorem dX6_denest_54 : decode cX6_denest 54 = .ok (.ifCond .ge 12, 3) := by decide +kernel
theorem dX6_denest_57 : decode cX6_denest 57 = .ok (.aload_n 0, 1) := by decide +kernel
theorem dX6_denest_58 : decode cX6_denest 58 = .ok (.getfield 10, 3) := by decide +kernel
theorem dX6_denest_61 : decode cX6_denest 61 = .ok (.invokevirtual 116, 3) := by decide +kernel
theorem dX6_denest_64 : decode cX6_denest 64 = .ok (.iconst (-1), 1) := by decide +kernel
theorem dX6_denest_65 : decode cX6_denest 65 = .ok (.ireturn, 1) := by decide +kernel
theorem dX6_denest_66 : decode cX6_denest 66 = .ok (.aload_n 0, 1) := by decide +kernel
theorem dX6_denest_67 : decode cX6_denest 67 = .ok (.iload_n 3, 1) := by decide +kernel
theorem dX6_denest_68 : decode cX6_denest 68 = .ok (.invokevirtual 129, 3) := by decide +kernel
theorem dX6_denest_71 : decode cX6_denest 71 = .ok (.ireturn, 1) := by decide +kernel
theorem dX6_text_0 : decode cX6_text 0 = .ok (.aload_n 0, 1) := by decide +kernel
theorem dX6_text_1 : decode cX6_text 1 = .ok (.getfield 30, 3) := by decide +kernel
theorem dX6_text_4 : decode cX6_text 4 = .ok (.iload_n 1, 1) := by decide +kernel
theorem dX6_text_5 : decode cX6_text 5 = .ok (.invokevirtual 63, 3) := by decide +kernel
theorem dX6_text_8 : decode cX6_text 8 = .ok (.ifCond .ne 5, 3) := by decide +kernel
theorem dX6_text_11 : decode cX6_text 11 = .ok (.iconst (-1), 1) := by decide +kernel
theorem dX6_text_12 : decode cX6_text 12 = .ok (.ireturn, 1) := by decide +kernel
theorem dX6_text_13 : decode cX6_text 13 = .ok (.aload_n 0, 1) := by decide +kernel
theorem dX6_text_14 : decode cX6_text 14 = .ok (.getfield 44, 3) := by decide +kernel
theorem dX6_text_17 : decode cX6_text 17 = .ok (.invokevirtual 162, 3) := by decide +kernel
theorem dX6_text_20 : decode cX6_text 20 = .ok (.iconst 0, 1) := by decide +kernel
theorem dX6_text_21 : decode cX6_text 21 = .ok (.istore_n 2, 1) := by decide +kernel
theorem dX6_text_22 : decode cX6_text 22 = .ok (.iload_n 2, 1) := by decide +kernel
theorem dX6_text_23 : decode cX6_text 23 = .ok (.iconst 1, 1) := by decide +kernel
theorem dX6_text_24 : decode cX6_text 24 = .ok (.aload_n 0, 1) := by decide +kernel
theorem dX6_text_25 : decode cX6_text 25 = .ok (.getfield 30, 3) := by decide +kernel
theorem dX6_text_28 : decode cX6_text 28 = .ok (.getfield 70, 3) := by decide +kernel
theorem dX6_text_31 : decode cX6_text 31 = .ok (.iload_n 1, 1) := by decide +kernel
theorem dX6_text_32 : decode cX6_text 32 = .ok (.iaload, 1) := by decide +kernel
theorem dX6_text_33 : decode cX6_text 33 = .ok (.ishl, 1) := by decide +kernel
theorem dX6_text_34 : decode cX6_text 34 = .ok (.if_icmp .ge 33, 3) := by decide +kernel
theorem dX6_text_37 : decode cX6_text 37 = .ok (.aload_n 0, 1) := by decide +kernel
theorem dX6_text_38 : decode cX6_text 38 = .ok (.getfield 44, 3) := by decide +kernel
theorem dX6_text_41 : decode cX6_text 41 = .ok (.aload_n 0, 1) := by decide +kernel
theorem dX6_text_42 : decode cX6_text 42 = .ok (.getfield 30, 3) := by decide +kernel
theorem dX6_text_45 : decode cX6_text 45 = .ok (.iload_n 1, 1) := by decide +kernel
theorem dX6_text_46 : decode cX6_text 46 = .ok (.iload_n 2, 1) := by decide +kernel
theorem dX6_text_47 : decode cX6_text 47 = .ok (.invokevirtual 126, 3) := by decide +kernel
theorem dX6_text_50 : decode cX6_text 50 = .ok (.iload_n 2, 1) := by decide +kernel
theorem dX6_text_51 : decode cX6_text 51 = .ok (.invokevirtual 165, 3) := by decide +kernel
theorem dX6_text_54 : decode cX6_text 54 = .ok (.aload_n 0, 1) := by decide +kernel
theorem dX6_text_55 : decode cX6_text 55 = .ok (.getfield 10, 3) := by decide +kernel
theorem dX6_text_58 : decode cX6_text 58 = .ok (.invokevirtual 116, 3) := by decide +kernel
theorem dX6_text_61 : decode cX6_text 61 = .ok (.iinc 2 1, 3) := by decide +kernel
theorem dX6_text_64 : decode cX6_text 64 = .ok (.goto (-42), 3) := by decide +kernel
theorem dX6_text_67 : decode cX6_text 67 = .ok (.aload_n 0, 1) := by decide +kernel
theorem dX6_text_68 : decode cX6_text 68 = .ok (.getfield 44, 3) := by decide +kernel
theorem dX6_text_71 : decode cX6_text 71 = .ok (.invokevirtual 169, 3) := by decide +kernel
theorem dX6_text_74 : decode cX6_text 74 = .ok (.ireturn, 1) := by decide +kernel
theorem dX6_letter_0 : decode cX6_letter 0 = .ok (.iload_n 1, 1) := by decide +kernel
theorem dX6_letter_1 : decode cX6_letter 1 = .ok (.ifCond .lt 14, 3) := by decide +kernel
theorem dX6_letter_4 : decode cX6_letter 4 = .ok (.iload_n 1, 1) := by decide +kernel
theorem dX6_letter_5 : decode cX6_letter 5 = .ok (.aload_n 0, 1) := by decide +kernel
theorem dX6_letter_6 : decode cX6_letter 6 = .ok (.getfield 44, 3) := by decide +kernel
theorem dX6_letter_9 : decode cX6_letter 9 = .ok (.getfield 173, 3) := by decide +kernel
theorem dX6_letter_12 : decode cX6_letter 12 = .ok (.if_icmp .lt 11, 3) := by decide +kernel
theorem dX6_letter_15 : decode cX6_letter 15 = .ok (.new 176, 3) := by decide +kernel
theorem dX6_letter_18 : decode cX6_letter 18 = .ok (.dup, 1) := by decide +kernel
theorem dX6_letter_19 : decode cX6_letter 19 = .ok (.invokespecial 178, 3) := by decide +kernel
theorem dX6_letter_22 : decode cX6_letter 22 = .ok (.athrow, 1) := by decide +kernel
theorem dX6_letter_23 : decode cX6_letter 23 = .ok (.aload_n 0, 1) := by decide +kernel
theorem dX6_letter_24 : decode cX6_letter 24 = .ok (.getfield 44, 3) := by decide +kernel
theorem dX6_letter_27 : decode cX6_letter 27 = .ok (.getfield 179, 3) := by decide +kernel
theorem dX6_letter_30 : decode cX6_letter 30 = .ok (.iload_n 1, 1) := by decide +kernel
theorem dX6_letter_31 : decode cX6_letter 31 = .ok (.baload, 1) := by decide +kernel
theorem dX6_letter_32 : decode cX6_letter 32 = .ok (.ireturn, 1) := by decide +kernel
theorem dX6_result_0 : decode cX6_result 0 = .ok (.iload_n 1, 1) := by decide +kernel
theorem dX6_result_1 : decode cX6_result 1 = .ok (.ifCond .ne 12, 3) := by decide +kernel
theorem dX6_result_4 : decode cX6_result 4 = .ok (.aload_n 0, 1) := by decide +kernel
theorem dX6_result_5 : decode cX6_result 5 = .ok (.getfield 10, 3) := by decide +kernel
theorem dX6_result_8 : decode cX6_result 8 = .ok (.iconst 0, 1) := by decide +kernel
theorem dX6_result_9 : decode cX6_result 9 = .ok (.invokevirtual 183, 3) := by decide +kernel
theorem dX6_result_12 : decode cX6_result 12 = .ok (.ireturn, 1) := by decide +kernel
theorem dX6_result_13 : decode cX6_result 13 = .ok (.iload_n 1, 1) := by decide +kernel
theorem dX6_result_14 : decode cX6_result 14 = .ok (.iconst 1, 1) := by decide +kernel
theorem dX6_result_15 : decode cX6_result 15 = .ok (.if_icmp .ne 12, 3) := by decide +kernel
theorem dX6_result_18 : decode cX6_result 18 = .ok (.aload_n 0, 1) := by decide +kernel
theorem dX6_result_19 : decode cX6_result 19 = .ok (.getfield 10, 3) := by decide +kernel
theorem dX6_result_22 : decode cX6_result 22 = .ok (.iconst 0, 1) := by decide +kernel
theorem dX6_result_23 : decode cX6_result 23 = .ok (.invokevirtual 185, 3) := by decide +kernel
theorem dX6_result_26 : decode cX6_result 26 = .ok (.ireturn, 1) := by decide +kernel
theorem dX6_result_27 : decode cX6_result 27 = .ok (.iload_n 1, 1) := by decide +kernel
theorem dX6_result_28 : decode cX6_result 28 = .ok (.iconst 2, 1) := by decide +kernel
theorem dX6_result_29 : decode cX6_result 29 = .ok (.if_icmp .ne 15, 3) := by decide +kernel
theorem dX6_result_32 : decode cX6_result 32 = .ok (.aload_n 0, 1) := by decide +kernel
theorem dX6_result_33 : decode cX6_result 33 = .ok (.getfield 10, 3) := by decide +kernel
theorem dX6_result_36 : decode cX6_result 36 = .ok (.bipush 64, 2) := by decide +kernel
theorem dX6_result_38 : decode cX6_result 38 = .ok (.invokevirtual 185, 3) := by decide +kernel
theorem dX6_result_41 : decode cX6_result 41 = .ok (.goto 5, 3) := by decide +kernel
theorem dX6_result_44 : decode cX6_result 44 = .ok (.bipush (-2), 2) := by decide +kernel
theorem dX6_result_46 : decode cX6_result 46 = .ok (.ireturn, 1) := by decide +kernel
theorem dX6_figure_0 : decode cX6_figure 0 = .ok (.iload_n 1, 1) := by decide +kernel
theorem dX6_figure_1 : decode cX6_figure 1 = .ok (.ifCond .lt 8, 3) := by decide +kernel
theorem dX6_figure_4 : decode cX6_figure 4 = .ok (.iload_n 1, 1) := by decide +kernel
theorem dX6_figure_5 : decode cX6_figure 5 = .ok (.iconst 1, 1) := by decide +kernel
theorem dX6_figure_6 : decode cX6_figure 6 = .ok (.if_icmp .le 5, 3) := by decide +kernel
theorem dX6_figure_9 : decode cX6_figure 9 = .ok (.iconst (-1), 1) := by decide +kernel
theorem dX6_figure_10 : decode cX6_figure 10 = .ok (.ireturn, 1) := by decide +kernel
theorem dX6_figure_11 : decode cX6_figure 11 = .ok (.iload_n 1, 1) := by decide +kernel
theorem dX6_figure_12 : decode cX6_figure 12 = .ok (.ifCond .ne 7, 3) := by decide +kernel
theorem dX6_figure_15 : decode cX6_figure 15 = .ok (.iconst 0, 1) := by decide +kernel
theorem dX6_figure_16 : decode cX6_figure 16 = .ok (.goto 5, 3) := by decide +kernel
theorem dX6_figure_19 : decode cX6_figure 19 = .ok (.bipush 64, 2) := by decide +kernel
theorem dX6_figure_21 : decode cX6_figure 21 = .ok (.istore_n 3, 1) := by decide +kernel
theorem dX6_figure_22 : decode cX6_figure 22 = .ok (.iload_n 2, 1) := by decide +kernel
theorem dX6_figure_23 : decode cX6_figure 23 = .ok (.ifCond .lt 15, 3) := by decide +kernel
theorem dX6_figure_26 : decode cX6_figure 26 = .ok (.iload_n 2, 1) := by decide +kernel
theorem dX6_figure_27 : decode cX6_figure 27 = .ok (.aload_n 0, 1) := by decide +kernel
theorem dX6_figure_28 : decode cX6_figure 28 = .ok (.getfield 10, 3) := by decide +kernel
theorem dX6_figure_31 : decode cX6_figure 31 = .ok (.iload_n 3, 1) := by decide +kernel
theorem dX6_figure_32 : decode cX6_figure 32 = .ok (.invokevirtual 185, 3) := by decide +kernel
theorem dX6_figure_35 : decode cX6_figure 35 = .ok (.if_icmp .lt 7, 3) := by decide +kernel
theorem dX6_figure_38 : decode cX6_figure 38 = .ok (.iconst (-1), 1) := by decide +kernel
theorem dX6_figure_39 : decode cX6_figure 39 = .ok (.goto 12, 3) := by decide +kernel
theorem dX6_figure_42 : decode cX6_figure 42 = .ok (.aload_n 0, 1) := by decide +kernel
theorem dX6_figure_43 : decode cX6_figure 43 = .ok (.getfield 10, 3) := by decide +kernel
theorem dX6_figure_46 : decode cX6_figure 46 = .ok (.iload_n 3, 1) := by decide +kernel
theorem dX6_figure_47 : decode cX6_figure 47 = .ok (.iload_n 2, 1) := by decide +kernel
theorem dX6_figure_48 : decode cX6_figure 48 = .ok (.invokevirtual 188, 3) := by decide +kernel
theorem dX6_figure_51 : decode cX6_figure 51 = .ok (.ireturn, 1) := by decide +kernel
theorem dX6_told_0 : decode cX6_told 0 = .ok (.iload_n 1, 1) := by decide +kernel
theorem dX6_told_1 : decode cX6_told 1 = .ok (.ifCond .ne 11, 3) := by decide +kernel
theorem dX6_told_4 : decode cX6_told 4 = .ok (.aload_n 0, 1) := by decide +kernel
theorem dX6_told_5 : decode cX6_told 5 = .ok (.getfield 21, 3) := by decide +kernel
theorem dX6_told_8 : decode cX6_told 8 = .ok (.getfield 109, 3) := by decide +kernel
theorem dX6_told_11 : decode cX6_told 11 = .ok (.ireturn, 1) := by decide +kernel
theorem dX6_told_12 : decode cX6_told 12 = .ok (.iload_n 1, 1) := by decide +kernel
theorem dX6_told_13 : decode cX6_told 13 = .ok (.iconst 1, 1) := by decide +kernel
theorem dX6_told_14 : decode cX6_told 14 = .ok (.if_icmp .ne 13, 3) := by decide +kernel
theorem dX6_told_17 : decode cX6_told 17 = .ok (.aload_n 0, 1) := by decide +kernel
theorem dX6_told_18 : decode cX6_told 18 = .ok (.getfield 30, 3) := by decide +kernel
theorem dX6_told_21 : decode cX6_told 21 = .ok (.getfield 191, 3) := by decide +kernel
theorem dX6_told_24 : decode cX6_told 24 = .ok (.goto 4, 3) := by decide +kernel
theorem dX6_told_27 : decode cX6_told 27 = .ok (.iconst (-1), 1) := by decide +kernel
theorem dX6_told_28 : decode cX6_told 28 = .ok (.ireturn, 1) := by decide +kernel
theorem dX6_clear_0 : decode cX6_clear 0 = .ok (.aload_n 0, 1) := by decide +kernel
theorem dX6_clear_1 : decode cX6_clear 1 = .ok (.getfield 30, 3) := by decide +kernel
theorem dX6_clear_4 : decode cX6_clear 4 = .ok (.getfield 191, 3) := by decide +kernel
theorem dX6_clear_7 : decode cX6_clear 7 = .ok (.istore_n 1, 1) := by decide +kernel
theorem dX6_clear_8 : decode cX6_clear 8 = .ok (.aload_n 0, 1) := by decide +kernel
theorem dX6_clear_9 : decode cX6_clear 9 = .ok (.invokevirtual 48, 3) := by decide +kernel
theorem dX6_clear_12 : decode cX6_clear 12 = .ok (.iload_n 1, 1) := by decide +kernel
theorem dX6_clear_13 : decode cX6_clear 13 = .ok (.ireturn, 1) := by decide +kernel
theorem dX6_beginAnew_0 : decode cX6_beginAnew 0 = .ok (.aload_n 0, 1) := by decide +kernel
theorem dX6_beginAnew_1 : decode cX6_beginAnew 1 = .ok (.getfield 10, 3) := by decide +kernel
theorem dX6_beginAnew_4 : decode cX6_beginAnew 4 = .ok (.invokevirtual 194, 3) := by decide +kernel
theorem dX6_beginAnew_7 : decode cX6_beginAnew 7 = .ok (.aload_n 0, 1) := by decide +kernel
theorem dX6_beginAnew_8 : decode cX6_beginAnew 8 = .ok (.getfield 21, 3) := by decide +kernel
theorem dX6_beginAnew_11 : decode cX6_beginAnew 11 = .ok (.invokevirtual 197, 3) := by decide +kernel
theorem dX6_beginAnew_14 : decode cX6_beginAnew 14 = .ok (.aload_n 0, 1) := by decide +kernel
theorem dX6_beginAnew_15 : decode cX6_beginAnew 15 = .ok (.getfield 30, 3) := by decide +kernel
theorem dX6_beginAnew_18 : decode cX6_beginAnew 18 = .ok (.invokevirtual 198, 3) := by decide +kernel
theorem dX6_beginAnew_21 : decode cX6_beginAnew 21 = .ok (.aload_n 0, 1) := by decide +kernel
theorem dX6_beginAnew_22 : decode cX6_beginAnew 22 = .ok (.getfield 44, 3) := by decide +kernel
theorem dX6_beginAnew_25 : decode cX6_beginAnew 25 = .ok (.iconst 0, 1) := by decide +kernel
theorem dX6_beginAnew_26 : decode cX6_beginAnew 26 = .ok (.putfield 173, 3) := by decide +kernel
theorem dX6_beginAnew_29 : decode cX6_beginAnew 29 = .ok (.aload_n 0, 1) := by decide +kernel
theorem dX6_beginAnew_30 : decode cX6_beginAnew 30 = .ok (.getfield 10, 3) := by decide +kernel
theorem dX6_beginAnew_33 : decode cX6_beginAnew 33 = .ok (.invokevirtual 199, 3) := by decide +kernel
theorem dX6_beginAnew_36 : decode cX6_beginAnew 36 = .ok (.return_, 1) := by decide +kernel
theorem dX7_take_0 : decode cX7_take 0 = .ok (.aload_n 0, 1) := by decide +kernel
theorem dX7_take_1 : decode cX7_take 1 = .ok (.getfield 1, 3) := by decide +kernel
theorem dX7_take_4 : decode cX7_take 4 = .ok (.istore_n 2, 1) := by decide +kernel
theorem dX7_take_5 : decode cX7_take 5 = .ok (.aload_n 0, 1) := by decide +kernel
theorem dX7_take_6 : decode cX7_take 6 = .ok (.dup, 1) := by decide +kernel
theorem dX7_take_7 : decode cX7_take 7 = .ok (.getfield 1, 3) := by decide +kernel
theorem dX7_take_10 : decode cX7_take 10 = .ok (.iload_n 1, 1) := by decide +kernel
theorem dX7_take_11 : decode cX7_take 11 = .ok (.iadd, 1) := by decide +kernel
theorem dX7_take_12 : decode cX7_take 12 = .ok (.putfield 1, 3) := by decide +kernel
theorem dX7_take_15 : decode cX7_take 15 = .ok (.iload_n 2, 1) := by decide +kernel
theorem dX7_take_16 : decode cX7_take 16 = .ok (.ireturn, 1) := by decide +kernel
theorem dX7_put_0 : decode cX7_put 0 = .ok (.lload_n 2, 1) := by decide +kernel
theorem dX7_put_1 : decode cX7_put 1 = .ok (.lstore 4, 2) := by decide +kernel
theorem dX7_put_3 : decode cX7_put 3 = .ok (.aload_n 0, 1) := by decide +kernel
theorem dX7_put_4 : decode cX7_put 4 = .ok (.getfield 7, 3) := by decide +kernel
theorem dX7_put_7 : decode cX7_put 7 = .ok (.iload_n 1, 1) := by decide +kernel
theorem dX7_put_8 : decode cX7_put 8 = .ok (.lload_n 2, 1) := by decide +kernel
theorem dX7_put_9 : decode cX7_put 9 = .ok (.lconst 0, 1) := by decide +kernel
theorem dX7_put_10 : decode cX7_put 10 = .ok (.lcmp, 1) := by decide +kernel
theorem dX7_put_11 : decode cX7_put 11 = .ok (.ifCond .ge 7, 3) := by decide +kernel
theorem dX7_put_14 : decode cX7_put 14 = .ok (.iconst (-1), 1) := by decide +kernel
theorem dX7_put_15 : decode cX7_put 15 = .ok (.goto 14, 3) := by decide +kernel
theorem dX7_put_18 : decode cX7_put 18 = .ok (.lload_n 2, 1) := by decide +kernel
theorem dX7_put_19 : decode cX7_put 19 = .ok (.lconst 0, 1) := by decide +kernel
theorem dX7_put_20 : decode cX7_put 20 = .ok (.lcmp, 1) := by decide +kernel
theorem dX7_put_21 : decode cX7_put 21 = .ok (.ifCond .le 7, 3) := by decide +kernel
theorem dX7_put_24 : decode cX7_put 24 = .ok (.iconst 1, 1) := by decide +kernel
theorem dX7_put_25 : decode cX7_put 25 = .ok (.goto 4, 3) := by decide +kernel
theorem dX7_put_28 : decode cX7_put 28 = .ok (.iconst 0, 1) := by decide +kernel
theorem dX7_put_29 : decode cX7_put 29 = .ok (.iastore, 1) := by decide +kernel
theorem dX7_put_30 : decode cX7_put 30 = .ok (.aload_n 0, 1) := by decide +kernel
theorem dX7_put_31 : decode cX7_put 31 = .ok (.getfield 11, 3) := by decide +kernel
theorem dX7_put_34 : decode cX7_put 34 = .ok (.iload_n 1, 1) := by decide +kernel
theorem dX7_put_35 : decode cX7_put 35 = .ok (.iconst 0, 1) := by decide +kernel
theorem dX7_put_36 : decode cX7_put 36 = .ok (.iastore, 1) := by decide +kernel
theorem dX7_put_37 : decode cX7_put 37 = .ok (.lload 4, 2) := by decide +kernel
theorem dX7_put_39 : decode cX7_put 39 = .ok (.lconst 0, 1) := by decide +kernel
theorem dX7_put_40 : decode cX7_put 40 = .ok (.lcmp, 1) := by decide +kernel
theorem dX7_put_41 : decode cX7_put 41 = .ok (.ifCond .eq 63, 3) := by decide +kernel
theorem dX7_put_44 : decode cX7_put 44 = .ok (.lload 4, 2) := by decide +kernel
theorem dX7_put_46 : decode cX7_put 46 = .ok (.ldc2_w 14, 3) := by decide +kernel
theorem dX7_put_49 : decode cX7_put 49 = .ok (.lrem, 1) := by decide +kernel
theorem dX7_put_50 : decode cX7_put 50 = .ok (.l2i, 1) := by decide +kernel
theorem dX7_put_51 : decode cX7_put 51 = .ok (.istore 6, 2) := by decide +kernel
theorem dX7_put_53 : decode cX7_put 53 = .ok (.aload_n 0, 1) := by decide +kernel
theorem dX7_put_54 : decode cX7_put 54 = .ok (.getfield 16, 3) := by decide +kernel
theorem dX7_put_57 : decode cX7_put 57 = .ok (.sipush 2500, 3) := by decide +kernel
theorem dX7_put_60 : decode cX7_put 60 = .ok (.iload_n 1, 1) := by decide +kernel
theorem dX7_put_61 : decode cX7_put 61 = .ok (.imul, 1) := by decide +kernel
theorem dX7_put_62 : decode cX7_put 62 = .ok (.aload_n 0, 1) := by decide +kernel
theorem dX7_put_63 : decode cX7_put 63 = .ok (.getfield 11, 3) := by decide +kernel
theorem dX7_put_66 : decode cX7_put 66 = .ok (.iload_n 1, 1) := by decide +kernel
theorem dX7_put_67 : decode cX7_put 67 = .ok (.iaload, 1) := by decide +kernel
theorem dX7_put_68 : decode cX7_put 68 = .ok (.iadd, 1) := by decide +kernel
theorem dX7_put_69 : decode cX7_put 69 = .ok (.iload 6, 2) := by decide +kernel
theorem dX7_put_71 : decode cX7_put 71 = .ok (.ifCond .ge 9, 3) := by decide +kernel
theorem dX7_put_74 : decode cX7_put 74 = .ok (.iload 6, 2) := by decide +kernel
theorem dX7_put_76 : decode cX7_put 76 = .ok (.ineg, 1) := by decide +kernel
theorem dX7_put_77 : decode cX7_put 77 = .ok (.goto 5, 3) := by decide +kernel
theorem dX7_put_80 : decode cX7_put 80 = .ok (.iload 6, 2) := by decide +kernel
theorem dX7_put_82 : decode cX7_put 82 = .ok (.iastore, 1) := by decide +kernel
theorem dX7_put_83 : decode cX7_put 83 = .ok (.lload 4, 2) := by decide +kernel
theorem dX7_put_85 : decode cX7_put 85 = .ok (.ldc2_w 14, 3) := by decide +kernel
theorem dX7_put_88 : decode cX7_put 88 = .ok (.ldiv, 1) := by decide +kernel
theorem dX7_put_89 : decode cX7_put 89 = .ok (.lstore 4, 2) := by decide +kernel
theorem dX7_put_91 : decode cX7_put 91 = .ok (.aload_n 0, 1) := by decide +kernel
theorem dX7_put_92 : decode cX7_put 92 = .ok (.getfield 11, 3) := by decide +kernel
theorem dX7_put_95 : decode cX7_put 95 = .ok (.iload_n 1, 1) := by decide +kernel
theorem dX7_put_96 : decode cX7_put 96 = .ok (.dup2, 1) := by decide +kernel
theorem dX7_put_97 : decode cX7_put 97 = .ok (.iaload, 1) := by decide +kernel
theorem dX7_put_98 : decode cX7_put 98 = .ok (.iconst 1, 1) := by decide +kernel
theorem dX7_put_99 : decode cX7_put 99 = .ok (.iadd, 1) := by decide +kernel
theorem dX7_put_100 : decode cX7_put 100 = .ok (.iastore, 1) := by decide +kernel
theorem dX7_put_101 : decode cX7_put 101 = .ok (.goto (-64), 3) := by decide +kernel
theorem dX7_put_104 : decode cX7_put 104 = .ok (.return_, 1) := by decide +kernel
theorem dX7_copy_0 : decode cX7_copy 0 = .ok (.iconst 0, 1) := by decide +kernel
theorem dX7_copy_1 : decode cX7_copy 1 = .ok (.istore_n 3, 1) := by decide +kernel
theorem dX7_copy_2 : decode cX7_copy 2 = .ok (.iload_n 3, 1) := by decide +kernel
theorem dX7_copy_3 : decode cX7_copy 3 = .ok (.aload_n 0, 1) := by decide +kernel
theorem dX7_copy_4 : decode cX7_copy 4 = .ok (.getfield 11, 3) := by decide +kernel
theorem dX7_copy_7 : decode cX7_copy 7 = .ok (.iload_n 1, 1) := by decide +kernel
theorem dX7_copy_8 : decode cX7_copy 8 = .ok (.iaload, 1) := by decide +kernel
theorem dX7_copy_9 : decode cX7_copy 9 = .ok (.if_icmp .ge 33, 3) := by decide +kernel
theorem dX7_copy_12 : decode cX7_copy 12 = .ok (.aload_n 0, 1) := by decide +kernel
theorem dX7_copy_13 : decode cX7_copy 13 = .ok (.getfield 16, 3) := by decide +kernel
theorem dX7_copy_16 : decode cX7_copy 16 = .ok (.sipush 2500, 3) := by decide +kernel
theorem dX7_copy_19 : decode cX7_copy 19 = .ok (.iload_n 2, 1) := by decide +kernel
theorem dX7_copy_20 : decode cX7_copy 20 = .ok (.imul, 1) := by decide +kernel
theorem dX7_copy_21 : decode cX7_copy 21 = .ok (.iload_n 3, 1) := by decide +kernel
theorem dX7_copy_22 : decode cX7_copy 22 = .ok (.iadd, 1) := by decide +kernel
theorem dX7_copy_23 : decode cX7_copy 23 = .ok (.aload_n 0, 1) := by decide +kernel
theorem dX7_copy_24 : decode cX7_copy 24 = .ok (.getfield 16, 3) := by decide +kernel
theorem dX7_copy_27 : decode cX7_copy 27 = .ok (.sipush 2500, 3) := by decide +kernel
theorem dX7_copy_30 : decode cX7_copy 30 = .ok (.iload_n 1, 1) := by decide +kernel
theorem dX7_copy_31 : decode cX7_copy 31 = .ok (.imul, 1) := by decide +kernel
theorem dX7_copy_32 : decode cX7_copy 32 = .ok (.iload_n 3, 1) := by decide +kernel
theorem dX7_copy_33 : decode cX7_copy 33 = .ok (.iadd, 1) := by decide +kernel
theorem dX7_copy_34 : decode cX7_copy 34 = .ok (.iaload, 1) := by decide +kernel
theorem dX7_copy_35 : decode cX7_copy 35 = .ok (.iastore, 1) := by decide +kernel
theorem dX7_copy_36 : decode cX7_copy 36 = .ok (.iinc 3 1, 3) := by decide +kernel
theorem dX7_copy_39 : decode cX7_copy 39 = .ok (.goto (-37), 3) := by decide +kernel
theorem dX7_copy_42 : decode cX7_copy 42 = .ok (.aload_n 0, 1) := by decide +kernel
theorem dX7_copy_43 : decode cX7_copy 43 = .ok (.getfield 11, 3) := by decide +kernel
theorem dX7_copy_46 : decode cX7_copy 46 = .ok (.iload_n 2, 1) := by decide +kernel
theorem dX7_copy_47 : decode cX7_copy 47 = .ok (.aload_n 0, 1) := by decide +kernel
theorem dX7_copy_48 : decode cX7_copy 48 = .ok (.getfield 11, 3) := by decide +kernel
theorem dX7_copy_51 : decode cX7_copy 51 = .ok (.iload_n 1, 1) := by decide +kernel
theorem dX7_copy_52 : decode cX7_copy 52 = .ok (.iaload, 1) := by decide +kernel
theorem dX7_copy_53 : decode cX7_copy 53 = .ok (.iastore, 1) := by decide +kernel
theorem dX7_copy_54 : decode cX7_copy 54 = .ok (.aload_n 0, 1) := by decide +kernel
theorem dX7_copy_55 : decode cX7_copy 55 = .ok (.getfield 7, 3) := by decide +kernel
theorem dX7_copy_58 : decode cX7_copy 58 = .ok (.iload_n 2, 1) := by decide +kernel
theorem dX7_copy_59 : decode cX7_copy 59 = .ok (.aload_n 0, 1) := by decide +kernel
theorem dX7_copy_60 : decode cX7_copy 60 = .ok (.getfield 7, 3) := by decide +kernel
theorem dX7_copy_63 : decode cX7_copy 63 = .ok (.iload_n 1, 1) := by decide +kernel
theorem dX7_copy_64 : decode cX7_copy 64 = .ok (.iaload, 1) := by decide +kernel
theorem dX7_copy_65 : decode cX7_copy 65 = .ok (.iastore, 1) := by decide +kernel
