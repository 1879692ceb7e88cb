theorem dX7_keepPart_49 : decode cX7_keepPart 49 = .ok (.aload_n 0, 1) := by decide +kernel
theorem dX7_keepPart_50 : decode cX7_keepPart 50 = .ok (.getfield 11, 3) := by decide +kernel
theorem dX7_keepPart_53 : decode cX7_keepPart 53 = .ok (.iload_n 1, 1) := by decide +kernel
theorem dX7_keepPart_54 : decode cX7_keepPart 54 = .ok (.iload_n 3, 1) := by decide +kernel
theorem dX7_keepPart_55 : decode cX7_keepPart 55 = .ok (.iadd, 1) := by decide +kernel
theorem dX7_keepPart_56 : decode cX7_keepPart 56 = .ok (.iaload, 1) := by decide +kernel
theorem dX7_keepPart_57 : decode cX7_keepPart 57 = .ok (.if_icmp .ge 37, 3) := by decide +kernel
theorem dX7_keepPart_60 : decode cX7_keepPart 60 = .ok (.aload_n 0, 1) := by decide +kernel
theorem dX7_keepPart_61 : decode cX7_keepPart 61 = .ok (.getfield 102, 3) := by decide +kernel
theorem dX7_keepPart_64 : decode cX7_keepPart 64 = .ok (.bipush 8, 2) := by decide +kernel
theorem dX7_keepPart_66 : decode cX7_keepPart 66 = .ok (.iload 4, 2) := by decide +kernel
theorem dX7_keepPart_68 : decode cX7_keepPart 68 = .ok (.imul, 1) := by decide +kernel
theorem dX7_keepPart_69 : decode cX7_keepPart 69 = .ok (.iload 5, 2) := by decide +kernel
theorem dX7_keepPart_71 : decode cX7_keepPart 71 = .ok (.iadd, 1) := by decide +kernel
theorem dX7_keepPart_72 : decode cX7_keepPart 72 = .ok (.aload_n 0, 1) := by decide +kernel
theorem dX7_keepPart_73 : decode cX7_keepPart 73 = .ok (.getfield 16, 3) := by decide +kernel
theorem dX7_keepPart_76 : decode cX7_keepPart 76 = .ok (.sipush 2500, 3) := by decide +kernel
theorem dX7_keepPart_79 : decode cX7_keepPart 79 = .ok (.iload_n 1, 1) := by decide +kernel
theorem dX7_keepPart_80 : decode cX7_keepPart 80 = .ok (.iload_n 3, 1) := by decide +kernel
theorem dX7_keepPart_81 : decode cX7_keepPart 81 = .ok (.iadd, 1) := by decide +kernel
theorem dX7_keepPart_82 : decode cX7_keepPart 82 = .ok (.imul, 1) := by decide +kernel
theorem dX7_keepPart_83 : decode cX7_keepPart 83 = .ok (.iload 5, 2) := by decide +kernel
theorem dX7_keepPart_85 : decode cX7_keepPart 85 = .ok (.iadd, 1) := by decide +kernel
theorem dX7_keepPart_86 : decode cX7_keepPart 86 = .ok (.iaload, 1) := by decide +kernel
theorem dX7_keepPart_87 : decode cX7_keepPart 87 = .ok (.iastore, 1) := by decide +kernel
theorem dX7_keepPart_88 : decode cX7_keepPart 88 = .ok (.iinc 5 1, 3) := by decide +kernel
theorem dX7_keepPart_91 : decode cX7_keepPart 91 = .ok (.goto (-44), 3) := by decide +kernel
theorem dX7_keepPart_94 : decode cX7_keepPart 94 = .ok (.iinc 3 1, 3) := by decide +kernel
theorem dX7_keepPart_97 : decode cX7_keepPart 97 = .ok (.goto (-95), 3) := by decide +kernel
theorem dX7_keepPart_100 : decode cX7_keepPart 100 = .ok (.return_, 1) := by decide +kernel
theorem dX7_results_0 : decode cX7_results 0 = .ok (.iconst 0, 1) := by decide +kernel
theorem dX7_results_1 : decode cX7_results 1 = .ok (.istore_n 2, 1) := by decide +kernel
theorem dX7_results_2 : decode cX7_results 2 = .ok (.iload_n 2, 1) := by decide +kernel
theorem dX7_results_3 : decode cX7_results 3 = .ok (.iconst 2, 1) := by decide +kernel
theorem dX7_results_4 : decode cX7_results 4 = .ok (.if_icmp .ge 83, 3) := by decide +kernel
theorem dX7_results_7 : decode cX7_results 7 = .ok (.aload_n 0, 1) := by decide +kernel
theorem dX7_results_8 : decode cX7_results 8 = .ok (.getfield 114, 3) := by decide +kernel
theorem dX7_results_11 : decode cX7_results 11 = .ok (.iload_n 2, 1) := by decide +kernel
theorem dX7_results_12 : decode cX7_results 12 = .ok (.aload_n 0, 1) := by decide +kernel
theorem dX7_results_13 : decode cX7_results 13 = .ok (.getfield 11, 3) := by decide +kernel
theorem dX7_results_16 : decode cX7_results 16 = .ok (.iload_n 1, 1) := by decide +kernel
theorem dX7_results_17 : decode cX7_results 17 = .ok (.iload_n 2, 1) := by decide +kernel
theorem dX7_results_18 : decode cX7_results 18 = .ok (.iadd, 1) := by decide +kernel
theorem dX7_results_19 : decode cX7_results 19 = .ok (.iaload, 1) := by decide +kernel
theorem dX7_results_20 : decode cX7_results 20 = .ok (.iastore, 1) := by decide +kernel
theorem dX7_results_21 : decode cX7_results 21 = .ok (.aload_n 0, 1) := by decide +kernel
theorem dX7_results_22 : decode cX7_results 22 = .ok (.getfield 117, 3) := by decide +kernel
theorem dX7_results_25 : decode cX7_results 25 = .ok (.iload_n 2, 1) := by decide +kernel
theorem dX7_results_26 : decode cX7_results 26 = .ok (.aload_n 0, 1) := by decide +kernel
theorem dX7_results_27 : decode cX7_results 27 = .ok (.getfield 7, 3) := by decide +kernel
theorem dX7_results_30 : decode cX7_results 30 = .ok (.iload_n 1, 1) := by decide +kernel
theorem dX7_results_31 : decode cX7_results 31 = .ok (.iload_n 2, 1) := by decide +kernel
theorem dX7_results_32 : decode cX7_results 32 = .ok (.iadd, 1) := by decide +kernel
theorem dX7_results_33 : decode cX7_results 33 = .ok (.iaload, 1) := by decide +kernel
theorem dX7_results_34 : decode cX7_results 34 = .ok (.iastore, 1) := by decide +kernel
theorem dX7_results_35 : decode cX7_results 35 = .ok (.iconst 0, 1) := by decide +kernel
theorem dX7_results_36 : decode cX7_results 36 = .ok (.istore_n 3, 1) := by decide +kernel
theorem dX7_results_37 : decode cX7_results 37 = .ok (.iload_n 3, 1) := by decide +kernel
theorem dX7_results_38 : decode cX7_results 38 = .ok (.aload_n 0, 1) := by decide +kernel
theorem dX7_results_39 : decode cX7_results 39 = .ok (.getfield 11, 3) := by decide +kernel
theorem dX7_results_42 : decode cX7_results 42 = .ok (.iload_n 1, 1) := by decide +kernel
theorem dX7_results_43 : decode cX7_results 43 = .ok (.iload_n 2, 1) := by decide +kernel
theorem dX7_results_44 : decode cX7_results 44 = .ok (.iadd, 1) := by decide +kernel
theorem dX7_results_45 : decode cX7_results 45 = .ok (.iaload, 1) := by decide +kernel
theorem dX7_results_46 : decode cX7_results 46 = .ok (.if_icmp .ge 35, 3) := by decide +kernel
theorem dX7_results_49 : decode cX7_results 49 = .ok (.aload_n 0, 1) := by decide +kernel
theorem dX7_results_50 : decode cX7_results 50 = .ok (.getfield 111, 3) := by decide +kernel
theorem dX7_results_53 : decode cX7_results 53 = .ok (.sipush 2500, 3) := by decide +kernel
theorem dX7_results_56 : decode cX7_results 56 = .ok (.iload_n 2, 1) := by decide +kernel
theorem dX7_results_57 : decode cX7_results 57 = .ok (.imul, 1) := by decide +kernel
theorem dX7_results_58 : decode cX7_results 58 = .ok (.iload_n 3, 1) := by decide +kernel
theorem dX7_results_59 : decode cX7_results 59 = .ok (.iadd, 1) := by decide +kernel
theorem dX7_results_60 : decode cX7_results 60 = .ok (.aload_n 0, 1) := by decide +kernel
theorem dX7_results_61 : decode cX7_results 61 = .ok (.getfield 16, 3) := by decide +kernel
theorem dX7_results_64 : decode cX7_results 64 = .ok (.sipush 2500, 3) := by decide +kernel
theorem dX7_results_67 : decode cX7_results 67 = .ok (.iload_n 1, 1) := by decide +kernel
theorem dX7_results_68 : decode cX7_results 68 = .ok (.iload_n 2, 1) := by decide +kernel
theorem dX7_results_69 : decode cX7_results 69 = .ok (.iadd, 1) := by decide +kernel
theorem dX7_results_70 : decode cX7_results 70 = .ok (.imul, 1) := by decide +kernel
theorem dX7_results_71 : decode cX7_results 71 = .ok (.iload_n 3, 1) := by decide +kernel
theorem dX7_results_72 : decode cX7_results 72 = .ok (.iadd, 1) := by decide +kernel
theorem dX7_results_73 : decode cX7_results 73 = .ok (.iaload, 1) := by decide +kernel
theorem dX7_results_74 : decode cX7_results 74 = .ok (.iastore, 1) := by decide +kernel
theorem dX7_results_75 : decode cX7_results 75 = .ok (.iinc 3 1, 3) := by decide +kernel
theorem dX7_results_78 : decode cX7_results 78 = .ok (.goto (-41), 3) := by decide +kernel
theorem dX7_results_81 : decode cX7_results 81 = .ok (.iinc 2 1, 3) := by decide +kernel
theorem dX7_results_84 : decode cX7_results 84 = .ok (.goto (-82), 3) := by decide +kernel
theorem dX7_results_87 : decode cX7_results 87 = .ok (.iconst 1, 1) := by decide +kernel
theorem dX7_results_88 : decode cX7_results 88 = .ok (.ireturn, 1) := by decide +kernel
theorem dX7_many_0 : decode cX7_many 0 = .ok (.iconst 1, 1) := by decide +kernel
theorem dX7_many_1 : decode cX7_many 1 = .ok (.iload_n 0, 1) := by decide +kernel
theorem dX7_many_2 : decode cX7_many 2 = .ok (.ishl, 1) := by decide +kernel
theorem dX7_many_3 : decode cX7_many 3 = .ok (.ireturn, 1) := by decide +kernel
theorem dX7_takeNumber_0 : decode cX7_takeNumber 0 = .ok (.aload_n 0, 1) := by decide +kernel
theorem dX7_takeNumber_1 : decode cX7_takeNumber 1 = .ok (.iconst 2, 1) := by decide +kernel
theorem dX7_takeNumber_2 : decode cX7_takeNumber 2 = .ok (.iload_n 1, 1) := by decide +kernel
theorem dX7_takeNumber_3 : decode cX7_takeNumber 3 = .ok (.invokestatic 130, 3) := by decide +kernel
theorem dX7_takeNumber_6 : decode cX7_takeNumber 6 = .ok (.imul, 1) := by decide +kernel
theorem dX7_takeNumber_7 : decode cX7_takeNumber 7 = .ok (.invokevirtual 43, 3) := by decide +kernel
theorem dX7_takeNumber_10 : decode cX7_takeNumber 10 = .ok (.ireturn, 1) := by decide +kernel
theorem dX7_vClear_0 : decode cX7_vClear 0 = .ok (.iconst 0, 1) := by decide +kernel
theorem dX7_vClear_1 : decode cX7_vClear 1 = .ok (.istore_n 3, 1) := by decide +kernel
theorem dX7_vClear_2 : decode cX7_vClear 2 = .ok (.iload_n 3, 1) := by decide +kernel
theorem dX7_vClear_3 : decode cX7_vClear 3 = .ok (.iload_n 2, 1) := by decide +kernel
theorem dX7_vClear_4 : decode cX7_vClear 4 = .ok (.invokestatic 130, 3) := by decide +kernel
theorem dX7_vClear_7 : decode cX7_vClear 7 = .ok (.if_icmp .ge 20, 3) := by decide +kernel
theorem dX7_vClear_10 : decode cX7_vClear 10 = .ok (.aload_n 0, 1) := by decide +kernel
theorem dX7_vClear_11 : decode cX7_vClear 11 = .ok (.iload_n 1, 1) := by decide +kernel
theorem dX7_vClear_12 : decode cX7_vClear 12 = .ok (.iconst 2, 1) := by decide +kernel
theorem dX7_vClear_13 : decode cX7_vClear 13 = .ok (.iload_n 3, 1) := by decide +kernel
theorem dX7_vClear_14 : decode cX7_vClear 14 = .ok (.imul, 1) := by decide +kernel
theorem dX7_vClear_15 : decode cX7_vClear 15 = .ok (.iadd, 1) := by decide +kernel
theorem dX7_vClear_16 : decode cX7_vClear 16 = .ok (.lconst 0, 1) := by decide +kernel
theorem dX7_vClear_17 : decode cX7_vClear 17 = .ok (.lconst 1, 1) := by decide +kernel
theorem dX7_vClear_18 : decode cX7_vClear 18 = .ok (.invokevirtual 85, 3) := by decide +kernel
theorem dX7_vClear_21 : decode cX7_vClear 21 = .ok (.iinc 3 1, 3) := by decide +kernel
theorem dX7_vClear_24 : decode cX7_vClear 24 = .ok (.goto (-22), 3) := by decide +kernel
theorem dX7_vClear_27 : decode cX7_vClear 27 = .ok (.return_, 1) := by decide +kernel
theorem dX7_isElement_0 : decode cX7_isElement 0 = .ok (.iload_n 1, 1) := by decide +kernel
theorem dX7_isElement_1 : decode cX7_isElement 1 = .ok (.ifCond .lt 15, 3) := by decide +kernel
theorem dX7_isElement_4 : decode cX7_isElement 4 = .ok (.iload_n 1, 1) := by decide +kernel
theorem dX7_isElement_5 : decode cX7_isElement 5 = .ok (.aload_n 0, 1) := by decide +kernel
theorem dX7_isElement_6 : decode cX7_isElement 6 = .ok (.getfield 285, 3) := by decide +kernel
theorem dX7_isElement_9 : decode cX7_isElement 9 = .ok (.if_icmp .ge 7, 3) := by decide +kernel
theorem dX7_isElement_12 : decode cX7_isElement 12 = .ok (.iconst 1, 1) := by decide +kernel
theorem dX7_isElement_13 : decode cX7_isElement 13 = .ok (.goto 4, 3) := by decide +kernel
theorem dX7_isElement_16 : decode cX7_isElement 16 = .ok (.iconst 0, 1) := by decide +kernel
theorem dX7_isElement_17 : decode cX7_isElement 17 = .ok (.ireturn, 1) := by decide +kernel
theorem dX7_keepElement_0 : decode cX7_keepElement 0 = .ok (.iconst 0, 1) := by decide +kernel
theorem dX7_keepElement_1 : decode cX7_keepElement 1 = .ok (.istore_n 2, 1) := by decide +kernel
theorem dX7_keepElement_2 : decode cX7_keepElement 2 = .ok (.iload_n 2, 1) := by decide +kernel
theorem dX7_keepElement_3 : decode cX7_keepElement 3 = .ok (.bipush 16, 2) := by decide +kernel
theorem dX7_keepElement_5 : decode cX7_keepElement 5 = .ok (.if_icmp .ge 54, 3) := by decide +kernel
theorem dX7_keepElement_8 : decode cX7_keepElement 8 = .ok (.iload_n 2, 1) := by decide +kernel
theorem dX7_keepElement_9 : decode cX7_keepElement 9 = .ok (.aload_n 0, 1) := by decide +kernel
theorem dX7_keepElement_10 : decode cX7_keepElement 10 = .ok (.getfield 133, 3) := by decide +kernel
theorem dX7_keepElement_13 : decode cX7_keepElement 13 = .ok (.invokestatic 130, 3) := by decide +kernel
theorem dX7_keepElement_16 : decode cX7_keepElement 16 = .ok (.if_icmp .ge 24, 3) := by decide +kernel
theorem dX7_keepElement_19 : decode cX7_keepElement 19 = .ok (.aload_n 0, 1) := by decide +kernel
theorem dX7_keepElement_20 : decode cX7_keepElement 20 = .ok (.iload_n 1, 1) := by decide +kernel
theorem dX7_keepElement_21 : decode cX7_keepElement 21 = .ok (.iconst 2, 1) := by decide +kernel
theorem dX7_keepElement_22 : decode cX7_keepElement 22 = .ok (.iload_n 2, 1) := by decide +kernel
theorem dX7_keepElement_23 : decode cX7_keepElement 23 = .ok (.imul, 1) := by decide +kernel
theorem dX7_keepElement_24 : decode cX7_keepElement 24 = .ok (.iadd, 1) := by decide +kernel
theorem dX7_keepElement_25 : decode cX7_keepElement 25 = .ok (.bipush 16, 2) := by decide +kernel
theorem dX7_keepElement_27 : decode cX7_keepElement 27 = .ok (.aload_n 0, 1) := by decide +kernel
theorem dX7_keepElement_28 : decode cX7_keepElement 28 = .ok (.getfield 285, 3) := by decide +kernel
theorem dX7_keepElement_31 : decode cX7_keepElement 31 = .ok (.imul, 1) := by decide +kernel
theorem dX7_keepElement_32 : decode cX7_keepElement 32 = .ok (.iload_n 2, 1) := by decide +kernel
theorem dX7_keepElement_33 : decode cX7_keepElement 33 = .ok (.iadd, 1) := by decide +kernel
theorem dX7_keepElement_34 : decode cX7_keepElement 34 = .ok (.invokevirtual 288, 3) := by decide +kernel
theorem dX7_keepElement_37 : decode cX7_keepElement 37 = .ok (.goto 16, 3) := by decide +kernel
theorem dX7_keepElement_40 : decode cX7_keepElement 40 = .ok (.aload_n 0, 1) := by decide +kernel
theorem dX7_keepElement_41 : decode cX7_keepElement 41 = .ok (.bipush 16, 2) := by decide +kernel
theorem dX7_keepElement_43 : decode cX7_keepElement 43 = .ok (.aload_n 0, 1) := by decide +kernel
theorem dX7_keepElement_44 : decode cX7_keepElement 44 = .ok (.getfield 285, 3) := by decide +kernel
theorem dX7_keepElement_47 : decode cX7_keepElement 47 = .ok (.imul, 1) := by decide +kernel
theorem dX7_keepElement_48 : decode cX7_keepElement 48 = .ok (.iload_n 2, 1) := by decide +kernel
theorem dX7_keepElement_49 : decode cX7_keepElement 49 = .ok (.iadd, 1) := by decide +kernel
theorem dX7_keepElement_50 : decode cX7_keepElement 50 = .ok (.invokevirtual 291, 3) := by decide +kernel
theorem dX7_keepElement_53 : decode cX7_keepElement 53 = .ok (.iinc 2 1, 3) := by decide +kernel
theorem dX7_keepElement_56 : decode cX7_keepElement 56 = .ok (.goto (-54), 3) := by decide +kernel
theorem dX7_keepElement_59 : decode cX7_keepElement 59 = .ok (.aload_n 0, 1) := by decide +kernel
theorem dX7_keepElement_60 : decode cX7_keepElement 60 = .ok (.dup, 1) := by decide +kernel
theorem dX7_keepElement_61 : decode cX7_keepElement 61 = .ok (.getfield 285, 3) := by decide +kernel
theorem dX7_keepElement_64 : decode cX7_keepElement 64 = .ok (.iconst 1, 1) := by decide +kernel
theorem dX7_keepElement_65 : decode cX7_keepElement 65 = .ok (.iadd, 1) := by decide +kernel
theorem dX7_keepElement_66 : decode cX7_keepElement 66 = .ok (.putfield 285, 3) := by decide +kernel
theorem dX7_keepElement_69 : decode cX7_keepElement 69 = .ok (.aload_n 0, 1) := by decide +kernel
theorem dX7_keepElement_70 : decode cX7_keepElement 70 = .ok (.getfield 285, 3) := by decide +kernel
theorem dX7_keepElement_73 : decode cX7_keepElement 73 = .ok (.iconst 1, 1) := by decide +kernel
theorem dX7_keepElement_74 : decode cX7_keepElement 74 = .ok (.isub, 1) := by decide +kernel
theorem dX7_keepElement_75 : decode cX7_keepElement 75 = .ok (.ireturn, 1) := by decide +kernel
theorem dX7_noPart_0 : decode cX7_noPart 0 = .ok (.aload_n 0, 1) := by decide +kernel
theorem dX7_noPart_1 : decode cX7_noPart 1 = .ok (.getfield 105, 3) := by decide +kernel
theorem dX7_noPart_4 : decode cX7_noPart 4 = .ok (.iconst 2, 1) := by decide +kernel
theorem dX7_noPart_5 : decode cX7_noPart 5 = .ok (.iload_n 1, 1) := by decide +kernel
theorem dX7_noPart_6 : decode cX7_noPart 6 = .ok (.imul, 1) := by decide +kernel
theorem dX7_noPart_7 : decode cX7_noPart 7 = .ok (.iconst 0, 1) := by decide +kernel
theorem dX7_noPart_8 : decode cX7_noPart 8 = .ok (.iastore, 1) := by decide +kernel
theorem dX7_noPart_9 : decode cX7_noPart 9 = .ok (.aload_n 0, 1) := by decide +kernel
theorem dX7_noPart_10 : decode cX7_noPart 10 = .ok (.getfield 108, 3) := by decide +kernel
theorem dX7_noPart_13 : decode cX7_noPart 13 = .ok (.iconst 2, 1) := by decide +kernel
theorem dX7_noPart_14 : decode cX7_noPart 14 = .ok (.iload_n 1, 1) := by decide +kernel
theorem dX7_noPart_15 : decode cX7_noPart 15 = .ok (.imul, 1) := by decide +kernel
theorem dX7_noPart_16 : decode cX7_noPart 16 = .ok (.iconst 0, 1) := by decide +kernel
theorem dX7_noPart_17 : decode cX7_noPart 17 = .ok (.iastore, 1) := by decide +kernel
theorem dX7_noPart_18 : decode cX7_noPart 18 = .ok (.aload_n 0, 1) := by decide +kernel
theorem dX7_noPart_19 : decode cX7_noPart 19 = .ok (.getfield 105, 3) := by decide +kernel
theorem dX7_noPart_22 : decode cX7_noPart 22 = .ok (.iconst 2, 1) := by decide +kernel
theorem dX7_noPart_23 : decode cX7_noPart 23 = .ok (.iload_n 1, 1) := by decide +kernel
theorem dX7_noPart_24 : decode cX7_noPart 24 = .ok (.imul, 1) := by decide +kernel
theorem dX7_noPart_25 : decode cX7_noPart 25 = .ok (.iconst 1, 1) := by decide +kernel
theorem dX7_noPart_26 : decode cX7_noPart 26 = .ok (.iadd, 1) := by decide +kernel
theorem dX7_noPart_27 : decode cX7_noPart 27 = .ok (.iconst 1, 1) := by decide +kernel
theorem dX7_noPart_28 : decode cX7_noPart 28 = .ok (.iastore, 1) := by decide +kernel
theorem dX7_noPart_29 : decode cX7_noPart 29 = .ok (.aload_n 0, 1) := by decide +kernel
theorem dX7_noPart_30 : decode cX7_noPart 30 = .ok (.getfield 108, 3) := by decide +kernel
theorem dX7_noPart_33 : decode cX7_noPart 33 = .ok (.iconst 2, 1) := by decide +kernel
theorem dX7_noPart_34 : decode cX7_noPart 34 = .ok (.iload_n 1, 1) := by decide +kernel
theorem dX7_noPart_35 : decode cX7_noPart 35 = .ok (.imul, 1) := by decide +kernel
theorem dX7_noPart_36 : decode cX7_noPart 36 = .ok (.iconst 1, 1) := by decide +kernel
theorem dX7_noPart_37 : decode cX7_noPart 37 = .ok (.iadd, 1) := by decide +kernel
theorem dX7_noPart_38 : decode cX7_noPart 38 = .ok (.iconst 1, 1) := by decide +kernel
theorem dX7_noPart_39 : decode cX7_noPart 39 = .ok (.iastore, 1) := by decide +kernel
theorem dX7_noPart_40 : decode cX7_noPart 40 = .ok (.aload_n 0, 1) := by decide +kernel
theorem dX7_noPart_41 : decode cX7_noPart 41 = .ok (.getfield 102, 3) := by decide +kernel
theorem dX7_noPart_44 : decode cX7_noPart 44 = .ok (.bipush 8, 2) := by decide +kernel
theorem dX7_noPart_46 : decode cX7_noPart 46 = .ok (.iconst 2, 1) := by decide +kernel
theorem dX7_noPart_47 : decode cX7_noPart 47 = .ok (.iload_n 1, 1) := by decide +kernel
theorem dX7_noPart_48 : decode cX7_noPart 48 = .ok (.imul, 1) := by decide +kernel
theorem dX7_noPart_49 : decode cX7_noPart 49 = .ok (.iconst 1, 1) := by decide +kernel
theorem dX7_noPart_50 : decode cX7_noPart 50 = .ok (.iadd, 1) := by decide +kernel
theorem dX7_noPart_51 : decode cX7_noPart 51 = .ok (.imul, 1) := by decide +kernel
theorem dX7_noPart_52 : decode cX7_noPart 52 = .ok (.iconst 1, 1) := by decide +kernel
theorem dX7_noPart_53 : decode cX7_noPart 53 = .ok (.iastore, 1) := by decide +kernel
theorem dX7_noPart_54 : decode cX7_noPart 54 = .ok (.return_, 1) := by decide +kernel
theorem dX7_fraction_0 : decode cX7_fraction 0 = .ok (.aload_n 0, 1) := by decide +kernel
theorem dX7_fraction_1 : decode cX7_fraction 1 = .ok (.iconst 0, 1) := by decide +kernel
theorem dX7_fraction_2 : decode cX7_fraction 2 = .ok (.putfield 127, 3) := by decide +kernel
theorem dX7_fraction_5 : decode cX7_fraction 5 = .ok (.aload_n 0, 1) := by decide +kernel
theorem dX7_fraction_6 : decode cX7_fraction 6 = .ok (.getfield 285, 3) := by decide +kernel
theorem dX7_fraction_9 : decode cX7_fraction 9 = .ok (.bipush 60, 2) := by decide +kernel
theorem dX7_fraction_11 : decode cX7_fraction 11 = .ok (.if_icmp .ne 5, 3) := by decide +kernel
theorem dX7_fraction_14 : decode cX7_fraction 14 = .ok (.iconst (-1), 1) := by decide +kernel
theorem dX7_fraction_15 : decode cX7_fraction 15 = .ok (.ireturn, 1) := by decide +kernel
theorem dX7_fraction_16 : decode cX7_fraction 16 = .ok (.lload_n 3, 1) := by decide +kernel
theorem dX7_fraction_17 : decode cX7_fraction 17 = .ok (.lconst 0, 1) := by decide +kernel
theorem dX7_fraction_18 : decode cX7_fraction 18 = .ok (.lcmp, 1) := by decide +kernel
theorem dX7_fraction_19 : decode cX7_fraction 19 = .ok (.ifCond .ne 6, 3) := by decide +kernel
theorem dX7_fraction_22 : decode cX7_fraction 22 = .ok (.bipush (-2), 2) := by decide +kernel
theorem dX7_fraction_24 : decode cX7_fraction 24 = .ok (.ireturn, 1) := by decide +kernel
theorem dX7_fraction_25 : decode cX7_fraction 25 = .ok (.aload_n 0, 1) := by decide +kernel
theorem dX7_fraction_26 : decode cX7_fraction 26 = .ok (.iconst 0, 1) := by decide +kernel
theorem dX7_fraction_27 : decode cX7_fraction 27 = .ok (.putfield 1, 3) := by decide +kernel
theorem dX7_fraction_30 : decode cX7_fraction 30 = .ok (.aload_n 0, 1) := by decide +kernel
theorem dX7_fraction_31 : decode cX7_fraction 31 = .ok (.aload_n 0, 1) := by decide +kernel
theorem dX7_fraction_32 : decode cX7_fraction 32 = .ok (.getfield 133, 3) := by decide +kernel
theorem dX7_fraction_35 : decode cX7_fraction 35 = .ok (.invokevirtual 230, 3) := by decide +kernel
theorem dX7_fraction_38 : decode cX7_fraction 38 = .ok (.istore 5, 2) := by decide +kernel
theorem dX7_fraction_40 : decode cX7_fraction 40 = .ok (.aload_n 0, 1) := by decide +kernel
theorem dX7_fraction_41 : decode cX7_fraction 41 = .ok (.iload 5, 2) := by decide +kernel
theorem dX7_fraction_43 : decode cX7_fraction 43 = .ok (.aload_n 0, 1) := by decide +kernel
theorem dX7_fraction_44 : decode cX7_fraction 44 = .ok (.getfield 133, 3) := by decide +kernel
theorem dX7_fraction_47 : decode cX7_fraction 47 = .ok (.invokevirtual 227, 3) := by decide +kernel
theorem dX7_fraction_50 : decode cX7_fraction 50 = .ok (.aload_n 0, 1) := by decide +kernel
theorem dX7_fraction_51 : decode cX7_fraction 51 = .ok (.iload 5, 2) := by decide +kernel
theorem dX7_fraction_53 : decode cX7_fraction 53 = .ok (.lload_n 1, 1) := by decide +kernel
theorem dX7_fraction_54 : decode cX7_fraction 54 = .ok (.invokevirtual 47, 3) := by decide +kernel
theorem dX7_fraction_57 : decode cX7_fraction 57 = .ok (.aload_n 0, 1) := by decide +kernel
theorem dX7_fraction_58 : decode cX7_fraction 58 = .ok (.iload 5, 2) := by decide +kernel
theorem dX7_fraction_60 : decode cX7_fraction 60 = .ok (.iconst 1, 1) := by decide +kernel
theorem dX7_fraction_61 : decode cX7_fraction 61 = .ok (.iadd, 1) := by decide +kernel
theorem dX7_fraction_62 : decode cX7_fraction 62 = .ok (.lload_n 3, 1) := by decide +kernel
theorem dX7_fraction_63 : decode cX7_fraction 63 = .ok (.invokevirtual 47, 3) := by decide +kernel
theorem dX7_fraction_66 : decode cX7_fraction 66 = .ok (.aload_n 0, 1) := by decide +kernel
theorem dX7_fraction_67 : decode cX7_fraction 67 = .ok (.iload 5, 2) := by decide +kernel
theorem dX7_fraction_69 : decode cX7_fraction 69 = .ok (.invokevirtual 79, 3) := by decide +kernel
theorem dX7_fraction_72 : decode cX7_fraction 72 = .ok (.aload_n 0, 1) := by decide +kernel
theorem dX7_fraction_73 : decode cX7_fraction 73 = .ok (.iload 5, 2) := by decide +kernel
theorem dX7_fraction_75 : decode cX7_fraction 75 = .ok (.invokevirtual 294, 3) := by decide +kernel
theorem dX7_fraction_78 : decode cX7_fraction 78 = .ok (.ireturn, 1) := by decide +kernel
theorem dX7_apply_0 : decode cX7_apply 0 = .ok (.aload_n 0, 1) := by decide +kernel
theorem dX7_apply_1 : decode cX7_apply 1 = .ok (.iconst 0, 1) := by decide +kernel
theorem dX7_apply_2 : decode cX7_apply 2 = .ok (.putfield 127, 3) := by decide +kernel
theorem dX7_apply_5 : decode cX7_apply 5 = .ok (.iload_n 1, 1) := by decide +kernel
theorem dX7_apply_6 : decode cX7_apply 6 = .ok (.ifCond .lt 33, 3) := by decide +kernel
theorem dX7_apply_9 : decode cX7_apply 9 = .ok (.iload_n 1, 1) := by decide +kernel
theorem dX7_apply_10 : decode cX7_apply 10 = .ok (.iconst 3, 1) := by decide +kernel
theorem dX7_apply_11 : decode cX7_apply 11 = .ok (.if_icmp .gt 28, 3) := by decide +kernel
theorem dX7_apply_14 : decode cX7_apply 14 = .ok (.aload_n 0, 1) := by decide +kernel
theorem dX7_apply_15 : decode cX7_apply 15 = .ok (.iload_n 2, 1) := by decide +kernel
theorem dX7_apply_16 : decode cX7_apply 16 = .ok (.invokevirtual 297, 3) := by decide +kernel
theorem dX7_apply_19 : decode cX7_apply 19 = .ok (.ifCond .eq 20, 3) := by decide +kernel
theorem dX7_apply_22 : decode cX7_apply 22 = .ok (.aload_n 0, 1) := by decide +kernel
theorem dX7_apply_23 : decode cX7_apply 23 = .ok (.iload_n 3, 1) := by decide +kernel
theorem dX7_apply_24 : decode cX7_apply 24 = .ok (.invokevirtual 297, 3) := by decide +kernel
theorem dX7_apply_27 : decode cX7_apply 27 = .ok (.ifCond .eq 12, 3) := by decide +kernel
theorem dX7_apply_30 : decode cX7_apply 30 = .ok (.aload_n 0, 1) := by decide +kernel
theorem dX7_apply_31 : decode cX7_apply 31 = .ok (.getfield 285, 3) := by decide +kernel
theorem dX7_apply_34 : decode cX7_apply 34 = .ok (.bipush 60, 2) := by decide +kernel
theorem dX7_apply_36 : decode cX7_apply 36 = .ok (.if_icmp .ne 5, 3) := by decide +kernel
theorem dX7_apply_39 : decode cX7_apply 39 = .ok (.iconst (-1), 1) := by decide +kernel
theorem dX7_apply_40 : decode cX7_apply 40 = .ok (.ireturn, 1) := by decide +kernel
theorem dX7_apply_41 : decode cX7_apply 41 = .ok (.aload_n 0, 1) := by decide +kernel
theorem dX7_apply_42 : decode cX7_apply 42 = .ok (.iconst 0, 1) := by decide +kernel
theorem dX7_apply_43 : decode cX7_apply 43 = .ok (.putfield 1, 3) := by decide +kernel
theorem dX7_apply_46 : decode cX7_apply 46 = .ok (.aload_n 0, 1) := by decide +kernel
theorem dX7_apply_47 : decode cX7_apply 47 = .ok (.aload_n 0, 1) := by decide +kernel
theorem dX7_apply_48 : decode cX7_apply 48 = .ok (.getfield 133, 3) := by decide +kernel
theorem dX7_apply_51 : decode cX7_apply 51 = .ok (.invokevirtual 230, 3) := by decide +kernel
theorem dX7_apply_54 : decode cX7_apply 54 = .ok (.istore 4, 2) := by decide +kernel
theorem dX7_apply_56 : decode cX7_apply 56 = .ok (.aload_n 0, 1) := by decide +kernel
theorem dX7_apply_57 : decode cX7_apply 57 = .ok (.aload_n 0, 1) := by decide +kernel
theorem dX7_apply_58 : decode cX7_apply 58 = .ok (.getfield 133, 3) := by decide +kernel
theorem dX7_apply_61 : decode cX7_apply 61 = .ok (.invokevirtual 230, 3) := by decide +kernel
theorem dX7_apply_64 : decode cX7_apply 64 = .ok (.istore 5, 2) := by decide +kernel
theorem dX7_apply_66 : decode cX7_apply 66 = .ok (.aload_n 0, 1) := by decide +kernel
theorem dX7_apply_67 : decode cX7_apply 67 = .ok (.aload_n 0, 1) := by decide +kernel
theorem dX7_apply_68 : decode cX7_apply 68 = .ok (.getfield 133, 3) := by decide +kernel
theorem dX7_apply_71 : decode cX7_apply 71 = .ok (.invokevirtual 230, 3) := by decide +kernel
theorem dX7_apply_74 : decode cX7_apply 74 = .ok (.istore 6, 2) := by decide +kernel
theorem dX7_apply_76 : decode cX7_apply 76 = .ok (.aload_n 0, 1) := by decide +kernel
theorem dX7_apply_77 : decode cX7_apply 77 = .ok (.iload_n 2, 1) := by decide +kernel
theorem dX7_apply_78 : decode cX7_apply 78 = .ok (.iload 4, 2) := by decide +kernel
theorem dX7_apply_80 : decode cX7_apply 80 = .ok (.invokevirtual 301, 3) := by decide +kernel
theorem dX7_apply_83 : decode cX7_apply 83 = .ok (.aload_n 0, 1) := by decide +kernel
theorem dX7_apply_84 : decode cX7_apply 84 = .ok (.iload_n 3, 1) := by decide +kernel
theorem dX7_apply_85 : decode cX7_apply 85 = .ok (.iload 5, 2) := by decide +kernel
theorem dX7_apply_87 : decode cX7_apply 87 = .ok (.invokevirtual 301, 3) := by decide +kernel
theorem dX7_apply_90 : decode cX7_apply 90 = .ok (.iload_n 1, 1) := by decide +kernel
theorem dX7_apply_91 : decode cX7_apply 91 = .ok (.iconst 3, 1) := by decide +kernel
theorem dX7_apply_92 : decode cX7_apply 92 = .ok (.if_icmp .ne 19, 3) := by decide +kernel
theorem dX7_apply_95 : decode cX7_apply 95 = .ok (.aload_n 0, 1) := by decide +kernel
theorem dX7_apply_96 : decode cX7_apply 96 = .ok (.iload 5, 2) := by decide +kernel
theorem dX7_apply_98 : decode cX7_apply 98 = .ok (.aload_n 0, 1) := by decide +kernel
theorem dX7_apply_99 : decode cX7_apply 99 = .ok (.getfield 133, 3) := by decide +kernel
theorem dX7_plain_0 : decode cX7_plain 0 = .ok (.aload_n 0, 1) := by decide +kernel
theorem dX7_plain_1 : decode cX7_plain 1 = .ok (.iconst 0, 1) := by decide +kernel
theorem dX7_plain_2 : decode cX7_plain 2 = .ok (.putfield 127, 3) := by decide +kernel
theorem dX7_plain_5 : decode cX7_plain 5 = .ok (.aload_n 0, 1) := by decide +kernel
theorem dX7_plain_6 : decode cX7_plain 6 = .ok (.iload_n 1, 1) := by decide +kernel
theorem dX7_plain_7 : decode cX7_plain 7 = .ok (.invokevirtual 297, 3) := by decide +kernel
theorem dX7_plain_10 : decode cX7_plain 10 = .ok (.ifCond .eq 12, 3) := by decide +kernel
theorem dX7_plain_13 : decode cX7_plain 13 = .ok (.aload_n 0, 1) := by decide +kernel
theorem dX7_plain_14 : decode cX7_plain 14 = .ok (.getfield 285, 3) := by decide +kernel
theorem dX7_plain_17 : decode cX7_plain 17 = .ok (.bipush 60, 2) := by decide +kernel
theorem dX7_plain_19 : decode cX7_plain 19 = .ok (.if_icmp .ne 5, 3) := by decide +kernel
theorem dX7_plain_22 : decode cX7_plain 22 = .ok (.iconst (-1), 1) := by decide +kernel
theorem dX7_plain_23 : decode cX7_plain 23 = .ok (.ireturn, 1) := by decide +kernel
theorem dX7_plain_24 : decode cX7_plain 24 = .ok (.aload_n 0, 1) := by decide +kernel
theorem dX7_plain_25 : decode cX7_plain 25 = .ok (.iconst 0, 1) := by decide +kernel
theorem dX7_plain_26 : decode cX7_plain 26 = .ok (.putfield 1, 3) := by decide +kernel
theorem dX7_plain_29 : decode cX7_plain 29 = .ok (.aload_n 0, 1) := by decide +kernel
theorem dX7_plain_30 : decode cX7_plain 30 = .ok (.aload_n 0, 1) := by decide +kernel
theorem dX7_plain_31 : decode cX7_plain 31 = .ok (.getfield 133, 3) := by decide +kernel
theorem dX7_plain_34 : decode cX7_plain 34 = .ok (.invokevirtual 230, 3) := by decide +kernel
theorem dX7_plain_37 : decode cX7_plain 37 = .ok (.istore_n 2, 1) := by decide +kernel
theorem dX7_plain_38 : decode cX7_plain 38 = .ok (.aload_n 0, 1) := by decide +kernel
theorem dX7_plain_39 : decode cX7_plain 39 = .ok (.iload_n 1, 1) := by decide +kernel
theorem dX7_plain_40 : decode cX7_plain 40 = .ok (.iload_n 2, 1) := by decide +kernel
theorem dX7_plain_41 : decode cX7_plain 41 = .ok (.invokevirtual 301, 3) := by decide +kernel
theorem dX7_plain_44 : decode cX7_plain 44 = .ok (.aload_n 0, 1) := by decide +kernel
theorem dX7_plain_45 : decode cX7_plain 45 = .ok (.iload_n 2, 1) := by decide +kernel
theorem dX7_plain_46 : decode cX7_plain 46 = .ok (.aload_n 0, 1) := by decide +kernel
theorem dX7_plain_47 : decode cX7_plain 47 = .ok (.getfield 133, 3) := by decide +kernel
theorem dX7_plain_50 : decode cX7_plain 50 = .ok (.invokevirtual 224, 3) := by decide +kernel
theorem dX7_plain_53 : decode cX7_plain 53 = .ok (.ifCond .eq 10, 3) := by decide +kernel
theorem dX7_plain_56 : decode cX7_plain 56 = .ok (.aload_n 0, 1) := by decide +kernel
theorem dX7_plain_57 : decode cX7_plain 57 = .ok (.iconst 1, 1) := by decide +kernel
theorem dX7_plain_58 : decode cX7_plain 58 = .ok (.putfield 127, 3) := by decide +kernel
theorem dX7_plain_61 : decode cX7_plain 61 = .ok (.iconst 0, 1) := by decide +kernel
theorem dX7_plain_62 : decode cX7_plain 62 = .ok (.ireturn, 1) := by decide +kernel
theorem dX7_plain_63 : decode cX7_plain 63 = .ok (.aload_n 0, 1) := by decide +kernel
theorem dX7_plain_64 : decode cX7_plain 64 = .ok (.iload_n 2, 1) := by decide +kernel
theorem dX7_plain_65 : decode cX7_plain 65 = .ok (.iload_n 2, 1) := by decide +kernel
theorem dX7_plain_66 : decode cX7_plain 66 = .ok (.aload_n 0, 1) := by decide +kernel
theorem dX7_plain_67 : decode cX7_plain 67 = .ok (.getfield 133, 3) := by decide +kernel
theorem dX7_plain_70 : decode cX7_plain 70 = .ok (.invokevirtual 304, 3) := by decide +kernel
theorem dX7_plain_73 : decode cX7_plain 73 = .ok (.aload_n 0, 1) := by decide +kernel
theorem dX7_plain_74 : decode cX7_plain 74 = .ok (.iload_n 2, 1) := by decide +kernel
theorem dX7_plain_75 : decode cX7_plain 75 = .ok (.bipush 60, 2) := by decide +kernel
theorem dX7_plain_77 : decode cX7_plain 77 = .ok (.invokevirtual 310, 3) := by decide +kernel
theorem dX7_plain_80 : decode cX7_plain 80 = .ok (.ifCond .eq 8, 3) := by decide +kernel
theorem dX7_plain_83 : decode cX7_plain 83 = .ok (.bipush (-5), 2) := by decide +kernel
theorem dX7_plain_85 : decode cX7_plain 85 = .ok (.goto 8, 3) := by decide +kernel
theorem dX7_plain_88 : decode cX7_plain 88 = .ok (.aload_n 0, 1) := by decide +kernel
theorem dX7_plain_89 : decode cX7_plain 89 = .ok (.iload_n 2, 1) := by decide +kernel
theorem dX7_plain_90 : decode cX7_plain 90 = .ok (.invokevirtual 294, 3) := by decide +kernel
theorem dX7_plain_93 : decode cX7_plain 93 = .ok (.ireturn, 1) := by decide +kernel
theorem dX7_root_0 : decode cX7_root 0 = .ok (.aload_n 0, 1) := by decide +kernel
theorem dX7_root_1 : decode cX7_root 1 = .ok (.iconst 0, 1) := by decide +kernel
theorem dX7_root_2 : decode cX7_root 2 = .ok (.putfield 127, 3) := by decide +kernel
theorem dX7_root_5 : decode cX7_root 5 = .ok (.aload_n 0, 1) := by decide +kernel
theorem dX7_root_6 : decode cX7_root 6 = .ok (.iload_n 1, 1) := by decide +kernel
theorem dX7_root_7 : decode cX7_root 7 = .ok (.invokevirtual 297, 3) := by decide +kernel
theorem dX7_root_10 : decode cX7_root 10 = .ok (.ifCond .eq 12, 3) := by decide +kernel
theorem dX7_root_13 : decode cX7_root 13 = .ok (.aload_n 0, 1) := by decide +kernel
theorem dX7_root_14 : decode cX7_root 14 = .ok (.getfield 285, 3) := by decide +kernel
theorem dX7_root_17 : decode cX7_root 17 = .ok (.bipush 60, 2) := by decide +kernel
theorem dX7_root_19 : decode cX7_root 19 = .ok (.if_icmp .ne 5, 3) := by decide +kernel
theorem dX7_root_22 : decode cX7_root 22 = .ok (.iconst (-1), 1) := by decide +kernel
theorem dX7_root_23 : decode cX7_root 23 = .ok (.ireturn, 1) := by decide +kernel
theorem dX7_root_24 : decode cX7_root 24 = .ok (.aload_n 0, 1) := by decide +kernel
theorem dX7_root_25 : decode cX7_root 25 = .ok (.iconst 0, 1) := by decide +kernel
theorem dX7_root_26 : decode cX7_root 26 = .ok (.putfield 1, 3) := by decide +kernel
theorem dX7_root_29 : decode cX7_root 29 = .ok (.aload_n 0, 1) := by decide +kernel
theorem dX7_root_30 : decode cX7_root 30 = .ok (.aload_n 0, 1) := by decide +kernel
theorem dX7_root_31 : decode cX7_root 31 = .ok (.getfield 133, 3) := by decide +kernel
theorem dX7_root_34 : decode cX7_root 34 = .ok (.invokevirtual 230, 3) := by decide +kernel
theorem dX7_root_37 : decode cX7_root 37 = .ok (.istore_n 2, 1) := by decide +kernel
theorem dX7_root_38 : decode cX7_root 38 = .ok (.aload_n 0, 1) := by decide +kernel
theorem dX7_root_39 : decode cX7_root 39 = .ok (.aload_n 0, 1) := by decide +kernel
theorem dX7_root_40 : decode cX7_root 40 = .ok (.getfield 133, 3) := by decide +kernel
theorem dX7_root_43 : decode cX7_root 43 = .ok (.invokevirtual 230, 3) := by decide +kernel
theorem dX7_root_46 : decode cX7_root 46 = .ok (.istore_n 3, 1) := by decide +kernel
theorem dX7_root_47 : decode cX7_root 47 = .ok (.aload_n 0, 1) := by decide +kernel
theorem dX7_root_48 : decode cX7_root 48 = .ok (.iload_n 1, 1) := by decide +kernel
theorem dX7_root_49 : decode cX7_root 49 = .ok (.iload_n 2, 1) := by decide +kernel
theorem dX7_root_50 : decode cX7_root 50 = .ok (.invokevirtual 301, 3) := by decide +kernel
theorem dX7_root_53 : decode cX7_root 53 = .ok (.aload_n 0, 1) := by decide +kernel
theorem dX7_root_54 : decode cX7_root 54 = .ok (.iload_n 2, 1) := by decide +kernel
theorem dX7_root_55 : decode cX7_root 55 = .ok (.aload_n 0, 1) := by decide +kernel
theorem dX7_root_56 : decode cX7_root 56 = .ok (.getfield 133, 3) := by decide +kernel
theorem dX7_root_59 : decode cX7_root 59 = .ok (.invokevirtual 313, 3) := by decide +kernel
theorem dX7_root_62 : decode cX7_root 62 = .ok (.ifCond .ge 6, 3) := by decide +kernel
theorem dX7_root_65 : decode cX7_root 65 = .ok (.bipush (-3), 2) := by decide +kernel
theorem dX7_root_67 : decode cX7_root 67 = .ok (.ireturn, 1) := by decide +kernel
theorem dX7_root_68 : decode cX7_root 68 = .ok (.aload_n 0, 1) := by decide +kernel
theorem dX7_root_69 : decode cX7_root 69 = .ok (.iload_n 2, 1) := by decide +kernel
theorem dX7_root_70 : decode cX7_root 70 = .ok (.iload_n 3, 1) := by decide +kernel
theorem dX7_root_71 : decode cX7_root 71 = .ok (.aload_n 0, 1) := by decide +kernel
theorem dX7_root_72 : decode cX7_root 72 = .ok (.getfield 133, 3) := by decide +kernel
theorem dX7_root_75 : decode cX7_root 75 = .ok (.invokevirtual 316, 3) := by decide +kernel
theorem dX7_root_78 : decode cX7_root 78 = .ok (.ifCond .eq 45, 3) := by decide +kernel
theorem dX7_root_81 : decode cX7_root 81 = .ok (.aload_n 0, 1) := by decide +kernel
theorem dX7_root_82 : decode cX7_root 82 = .ok (.iload_n 3, 1) := by decide +kernel
theorem dX7_root_83 : decode cX7_root 83 = .ok (.aload_n 0, 1) := by decide +kernel
theorem dX7_root_84 : decode cX7_root 84 = .ok (.getfield 133, 3) := by decide +kernel
theorem dX7_root_87 : decode cX7_root 87 = .ok (.invokevirtual 313, 3) := by decide +kernel
theorem dX7_root_90 : decode cX7_root 90 = .ok (.ifCond .ge 12, 3) := by decide +kernel
theorem dX7_root_93 : decode cX7_root 93 = .ok (.aload_n 0, 1) := by decide +kernel
theorem dX7_root_94 : decode cX7_root 94 = .ok (.iload_n 3, 1) := by decide +kernel
theorem dX7_root_95 : decode cX7_root 95 = .ok (.aload_n 0, 1) := by decide +kernel
theorem dX7_root_96 : decode cX7_root 96 = .ok (.getfield 133, 3) := by decide +kernel
theorem dX7_root_99 : decode cX7_root 99 = .ok (.invokevirtual 246, 3) := by decide +kernel
theorem dX7_isSquare_0 : decode cX7_isSquare 0 = .ok (.aload_n 0, 1) := by decide +kernel
theorem dX7_isSquare_1 : decode cX7_isSquare 1 = .ok (.iconst 0, 1) := by decide +kernel
theorem dX7_isSquare_2 : decode cX7_isSquare 2 = .ok (.putfield 127, 3) := by decide +kernel
theorem dX7_isSquare_5 : decode cX7_isSquare 5 = .ok (.aload_n 0, 1) := by decide +kernel
theorem dX7_isSquare_6 : decode cX7_isSquare 6 = .ok (.iload_n 1, 1) := by decide +kernel
theorem dX7_isSquare_7 : decode cX7_isSquare 7 = .ok (.invokevirtual 297, 3) := by decide +kernel
theorem dX7_isSquare_10 : decode cX7_isSquare 10 = .ok (.ifCond .ne 5, 3) := by decide +kernel
theorem dX7_isSquare_13 : decode cX7_isSquare 13 = .ok (.iconst (-1), 1) := by decide +kernel
theorem dX7_isSquare_14 : decode cX7_isSquare 14 = .ok (.ireturn, 1) := by decide +kernel
theorem dX7_isSquare_15 : decode cX7_isSquare 15 = .ok (.aload_n 0, 1) := by decide +kernel
theorem dX7_isSquare_16 : decode cX7_isSquare 16 = .ok (.iconst 0, 1) := by decide +kernel
theorem dX7_isSquare_17 : decode cX7_isSquare 17 = .ok (.putfield 1, 3) := by decide +kernel
theorem dX7_isSquare_20 : decode cX7_isSquare 20 = .ok (.aload_n 0, 1) := by decide +kernel
theorem dX7_isSquare_21 : decode cX7_isSquare 21 = .ok (.aload_n 0, 1) := by decide +kernel
theorem dX7_isSquare_22 : decode cX7_isSquare 22 = .ok (.getfield 133, 3) := by decide +kernel
theorem dX7_isSquare_25 : decode cX7_isSquare 25 = .ok (.invokevirtual 230, 3) := by decide +kernel
theorem dX7_isSquare_28 : decode cX7_isSquare 28 = .ok (.istore_n 2, 1) := by decide +kernel
theorem dX7_isSquare_29 : decode cX7_isSquare 29 = .ok (.aload_n 0, 1) := by decide +kernel
theorem dX7_isSquare_30 : decode cX7_isSquare 30 = .ok (.aload_n 0, 1) := by decide +kernel
theorem dX7_isSquare_31 : decode cX7_isSquare 31 = .ok (.getfield 133, 3) := by decide +kernel
theorem dX7_isSquare_34 : decode cX7_isSquare 34 = .ok (.invokevirtual 230, 3) := by decide +kernel
theorem dX7_isSquare_37 : decode cX7_isSquare 37 = .ok (.istore_n 3, 1) := by decide +kernel
theorem dX7_isSquare_38 : decode cX7_isSquare 38 = .ok (.aload_n 0, 1) := by decide +kernel
theorem dX7_isSquare_39 : decode cX7_isSquare 39 = .ok (.iload_n 1, 1) := by decide +kernel
theorem dX7_isSquare_40 : decode cX7_isSquare 40 = .ok (.iload_n 2, 1) := by decide +kernel
theorem dX7_isSquare_41 : decode cX7_isSquare 41 = .ok (.invokevirtual 301, 3) := by decide +kernel
theorem dX7_isSquare_44 : decode cX7_isSquare 44 = .ok (.aload_n 0, 1) := by decide +kernel
theorem dX7_isSquare_45 : decode cX7_isSquare 45 = .ok (.iload_n 2, 1) := by decide +kernel
theorem dX7_isSquare_46 : decode cX7_isSquare 46 = .ok (.iload_n 3, 1) := by decide +kernel
theorem dX7_isSquare_47 : decode cX7_isSquare 47 = .ok (.aload_n 0, 1) := by decide +kernel
theorem dX7_isSquare_48 : decode cX7_isSquare 48 = .ok (.getfield 133, 3) := by decide +kernel
theorem dX7_isSquare_51 : decode cX7_isSquare 51 = .ok (.invokevirtual 316, 3) := by decide +kernel
theorem dX7_isSquare_54 : decode cX7_isSquare 54 = .ok (.ifCond .eq 7, 3) := by decide +kernel
theorem dX7_isSquare_57 : decode cX7_isSquare 57 = .ok (.iconst 1, 1) := by decide +kernel
theorem dX7_isSquare_58 : decode cX7_isSquare 58 = .ok (.goto 4, 3) := by decide +kernel
theorem dX7_isSquare_61 : decode cX7_isSquare 61 = .ok (.iconst 0, 1) := by decide +kernel
theorem dX7_isSquare_62 : decode cX7_isSquare 62 = .ok (.ireturn, 1) := by decide +kernel
theorem dX7_sign_0 : decode cX7_sign 0 = .ok (.aload_n 0, 1) := by decide +kernel
theorem dX7_sign_1 : decode cX7_sign 1 = .ok (.iconst 0, 1) := by decide +kernel
theorem dX7_sign_2 : decode cX7_sign 2 = .ok (.putfield 127, 3) := by decide +kernel
theorem dX7_sign_5 : decode cX7_sign 5 = .ok (.aload_n 0, 1) := by decide +kernel
theorem dX7_sign_6 : decode cX7_sign 6 = .ok (.iload_n 1, 1) := by decide +kernel
theorem dX7_sign_7 : decode cX7_sign 7 = .ok (.invokevirtual 297, 3) := by decide +kernel
theorem dX7_sign_10 : decode cX7_sign 10 = .ok (.ifCond .ne 6, 3) := by decide +kernel
theorem dX7_sign_13 : decode cX7_sign 13 = .ok (.bipush (-2), 2) := by decide +kernel
theorem dX7_sign_15 : decode cX7_sign 15 = .ok (.ireturn, 1) := by decide +kernel
theorem dX7_sign_16 : decode cX7_sign 16 = .ok (.aload_n 0, 1) := by decide +kernel
theorem dX7_sign_17 : decode cX7_sign 17 = .ok (.iconst 0, 1) := by decide +kernel
theorem dX7_sign_18 : decode cX7_sign 18 = .ok (.putfield 1, 3) := by decide +kernel
theorem dX7_sign_21 : decode cX7_sign 21 = .ok (.aload_n 0, 1) := by decide +kernel
theorem dX7_sign_22 : decode cX7_sign 22 = .ok (.aload_n 0, 1) := by decide +kernel
theorem dX7_sign_23 : decode cX7_sign 23 = .ok (.getfield 133, 3) := by decide +kernel
theorem dX7_sign_26 : decode cX7_sign 26 = .ok (.invokevirtual 230, 3) := by decide +kernel
theorem dX7_sign_29 : decode cX7_sign 29 = .ok (.istore_n 2, 1) := by decide +kernel
theorem dX7_sign_30 : decode cX7_sign 30 = .ok (.aload_n 0, 1) := by decide +kernel
theorem dX7_sign_31 : decode cX7_sign 31 = .ok (.iload_n 1, 1) := by decide +kernel
theorem dX7_sign_32 : decode cX7_sign 32 = .ok (.iload_n 2, 1) := by decide +kernel
theorem dX7_sign_33 : decode cX7_sign 33 = .ok (.invokevirtual 301, 3) := by decide +kernel
theorem dX7_sign_36 : decode cX7_sign 36 = .ok (.aload_n 0, 1) := by decide +kernel
theorem dX7_sign_37 : decode cX7_sign 37 = .ok (.iload_n 2, 1) := by decide +kernel
theorem dX7_sign_38 : decode cX7_sign 38 = .ok (.aload_n 0, 1) := by decide +kernel
theorem dX7_sign_39 : decode cX7_sign 39 = .ok (.getfield 133, 3) := by decide +kernel
theorem dX7_sign_42 : decode cX7_sign 42 = .ok (.invokevirtual 313, 3) := by decide +kernel
theorem dX7_sign_45 : decode cX7_sign 45 = .ok (.ireturn, 1) := by decide +kernel
theorem dX7_compare_0 : decode cX7_compare 0 = .ok (.aload_n 0, 1) := by decide +kernel
theorem dX7_compare_1 : decode cX7_compare 1 = .ok (.iconst 0, 1) := by decide +kernel
theorem dX7_compare_2 : decode cX7_compare 2 = .ok (.putfield 127, 3) := by decide +kernel
theorem dX7_compare_5 : decode cX7_compare 5 = .ok (.aload_n 0, 1) := by decide +kernel
theorem dX7_compare_6 : decode cX7_compare 6 = .ok (.iload_n 1, 1) := by decide +kernel
theorem dX7_compare_7 : decode cX7_compare 7 = .ok (.invokevirtual 297, 3) := by decide +kernel
theorem dX7_compare_10 : decode cX7_compare 10 = .ok (.ifCond .eq 11, 3) := by decide +kernel
theorem dX7_compare_13 : decode cX7_compare 13 = .ok (.aload_n 0, 1) := by decide +kernel
theorem dX7_compare_14 : decode cX7_compare 14 = .ok (.iload_n 2, 1) := by decide +kernel
theorem dX7_compare_15 : decode cX7_compare 15 = .ok (.invokevirtual 297, 3) := by decide +kernel
theorem dX7_compare_18 : decode cX7_compare 18 = .ok (.ifCond .ne 6, 3) := by decide +kernel
theorem dX7_compare_21 : decode cX7_compare 21 = .ok (.bipush (-2), 2) := by decide +kernel
theorem dX7_compare_23 : decode cX7_compare 23 = .ok (.ireturn, 1) := by decide +kernel
theorem dX7_compare_24 : decode cX7_compare 24 = .ok (.aload_n 0, 1) := by decide +kernel
theorem dX7_compare_25 : decode cX7_compare 25 = .ok (.iconst 0, 1) := by decide +kernel
theorem dX7_compare_26 : decode cX7_compare 26 = .ok (.putfield 1, 3) := by decide +kernel
theorem dX7_compare_29 : decode cX7_compare 29 = .ok (.aload_n 0, 1) := by decide +kernel
theorem dX7_compare_30 : decode cX7_compare 30 = .ok (.aload_n 0, 1) := by decide +kernel
theorem dX7_compare_31 : decode cX7_compare 31 = .ok (.getfield 133, 3) := by decide +kernel
theorem dX7_compare_34 : decode cX7_compare 34 = .ok (.invokevirtual 230, 3) := by decide +kernel
theorem dX7_compare_37 : decode cX7_compare 37 = .ok (.istore_n 3, 1) := by decide +kernel
theorem dX7_compare_38 : decode cX7_compare 38 = .ok (.aload_n 0, 1) := by decide +kernel
theorem dX7_compare_39 : decode cX7_compare 39 = .ok (.aload_n 0, 1) := by decide +kernel
theorem dX7_compare_40 : decode cX7_compare 40 = .ok (.getfield 133, 3) := by decide +kernel
theorem dX7_compare_43 : decode cX7_compare 43 = .ok (.invokevirtual 230, 3) := by decide +kernel
theorem dX7_compare_46 : decode cX7_compare 46 = .ok (.istore 4, 2) := by decide +kernel
theorem dX7_compare_48 : decode cX7_compare 48 = .ok (.aload_n 0, 1) := by decide +kernel
theorem dX7_compare_49 : decode cX7_compare 49 = .ok (.iload_n 1, 1) := by decide +kernel
theorem dX7_compare_50 : decode cX7_compare 50 = .ok (.iload_n 3, 1) := by decide +kernel
theorem dX7_compare_51 : decode cX7_compare 51 = .ok (.invokevirtual 301, 3) := by decide +kernel
theorem dX7_compare_54 : decode cX7_compare 54 = .ok (.aload_n 0, 1) := by decide +kernel
theorem dX7_compare_55 : decode cX7_compare 55 = .ok (.iload_n 2, 1) := by decide +kernel
theorem dX7_compare_56 : decode cX7_compare 56 = .ok (.iload 4, 2) := by decide +kernel
theorem dX7_compare_58 : decode cX7_compare 58 = .ok (.invokevirtual 301, 3) := by decide +kernel
theorem dX7_compare_61 : decode cX7_compare 61 = .ok (.aload_n 0, 1) := by decide +kernel
theorem dX7_compare_62 : decode cX7_compare 62 = .ok (.iload_n 3, 1) := by decide +kernel
theorem dX7_compare_63 : decode cX7_compare 63 = .ok (.iload 4, 2) := by decide +kernel
theorem dX7_compare_65 : decode cX7_compare 65 = .ok (.iload_n 3, 1) := by decide +kernel
theorem dX7_compare_66 : decode cX7_compare 66 = .ok (.aload_n 0, 1) := by decide +kernel
theorem dX7_compare_67 : decode cX7_compare 67 = .ok (.getfield 133, 3) := by decide +kernel
theorem dX7_compare_70 : decode cX7_compare 70 = .ok (.iconst (-1), 1) := by decide +kernel
theorem dX7_compare_71 : decode cX7_compare 71 = .ok (.invokevirtual 236, 3) := by decide +kernel
theorem dX7_compare_74 : decode cX7_compare 74 = .ok (.aload_n 0, 1) := by decide +kernel
theorem dX7_compare_75 : decode cX7_compare 75 = .ok (.iload_n 3, 1) := by decide +kernel
theorem dX7_compare_76 : decode cX7_compare 76 = .ok (.aload_n 0, 1) := by decide +kernel
theorem dX7_compare_77 : decode cX7_compare 77 = .ok (.getfield 133, 3) := by decide +kernel
theorem dX7_compare_80 : decode cX7_compare 80 = .ok (.invokevirtual 313, 3) := by decide +kernel
theorem dX7_compare_83 : decode cX7_compare 83 = .ok (.ireturn, 1) := by decide +kernel
theorem dX7_level_0 : decode cX7_level 0 = .ok (.aload_n 0, 1) := by decide +kernel
theorem dX7_level_1 : decode cX7_level 1 = .ok (.iconst 0, 1) := by decide +kernel
theorem dX7_level_2 : decode cX7_level 2 = .ok (.putfield 127, 3) := by decide +kernel
theorem dX7_level_5 : decode cX7_level 5 = .ok (.aload_n 0, 1) := by decide +kernel
theorem dX7_level_6 : decode cX7_level 6 = .ok (.iload_n 1, 1) := by decide +kernel
theorem dX7_level_7 : decode cX7_level 7 = .ok (.invokevirtual 297, 3) := by decide +kernel
theorem dX7_level_10 : decode cX7_level 10 = .ok (.ifCond .eq 11, 3) := by decide +kernel
theorem dX7_level_13 : decode cX7_level 13 = .ok (.aload_n 0, 1) := by decide +kernel
theorem dX7_level_14 : decode cX7_level 14 = .ok (.iload_n 1, 1) := by decide +kernel
theorem dX7_level_15 : decode cX7_level 15 = .ok (.invokevirtual 320, 3) := by decide +kernel
theorem dX7_level_18 : decode cX7_level 18 = .ok (.goto 4, 3) := by decide +kernel
theorem dX7_level_21 : decode cX7_level 21 = .ok (.iconst (-1), 1) := by decide +kernel
theorem dX7_level_22 : decode cX7_level 22 = .ok (.ireturn, 1) := by decide +kernel
theorem dX7_coordinate_0 : decode cX7_coordinate 0 = .ok (.aload_n 0, 1) := by decide +kernel
theorem dX7_coordinate_1 : decode cX7_coordinate 1 = .ok (.iconst 0, 1) := by decide +kernel
theorem dX7_coordinate_2 : decode cX7_coordinate 2 = .ok (.putfield 127, 3) := by decide +kernel
theorem dX7_coordinate_5 : decode cX7_coordinate 5 = .ok (.aload_n 0, 1) := by decide +kernel
theorem dX7_coordinate_6 : decode cX7_coordinate 6 = .ok (.iload_n 1, 1) := by decide +kernel
theorem dX7_coordinate_7 : decode cX7_coordinate 7 = .ok (.invokevirtual 297, 3) := by decide +kernel
theorem dX7_coordinate_10 : decode cX7_coordinate 10 = .ok (.ifCond .eq 18, 3) := by decide +kernel
theorem dX7_coordinate_13 : decode cX7_coordinate 13 = .ok (.iload_n 2, 1) := by decide +kernel
theorem dX7_coordinate_14 : decode cX7_coordinate 14 = .ok (.ifCond .lt 14, 3) := by decide +kernel
theorem dX7_coordinate_17 : decode cX7_coordinate 17 = .ok (.iload_n 2, 1) := by decide +kernel
theorem dX7_coordinate_18 : decode cX7_coordinate 18 = .ok (.aload_n 0, 1) := by decide +kernel
theorem dX7_coordinate_19 : decode cX7_coordinate 19 = .ok (.getfield 133, 3) := by decide +kernel
theorem dX7_coordinate_22 : decode cX7_coordinate 22 = .ok (.invokestatic 130, 3) := by decide +kernel
theorem dX7_coordinate_25 : decode cX7_coordinate 25 = .ok (.if_icmp .lt 5, 3) := by decide +kernel
theorem dX7_coordinate_28 : decode cX7_coordinate 28 = .ok (.iconst (-1), 1) := by decide +kernel
theorem dX7_coordinate_29 : decode cX7_coordinate 29 = .ok (.ireturn, 1) := by decide +kernel
theorem dX7_coordinate_30 : decode cX7_coordinate 30 = .ok (.aload_n 0, 1) := by decide +kernel
theorem dX7_coordinate_31 : decode cX7_coordinate 31 = .ok (.iconst 0, 1) := by decide +kernel
theorem dX7_coordinate_32 : decode cX7_coordinate 32 = .ok (.putfield 1, 3) := by decide +kernel
theorem dX7_coordinate_35 : decode cX7_coordinate 35 = .ok (.aload_n 0, 1) := by decide +kernel
theorem dX7_coordinate_36 : decode cX7_coordinate 36 = .ok (.iconst 2, 1) := by decide +kernel
theorem dX7_coordinate_37 : decode cX7_coordinate 37 = .ok (.invokevirtual 43, 3) := by decide +kernel
theorem dX7_coordinate_40 : decode cX7_coordinate 40 = .ok (.istore_n 3, 1) := by decide +kernel
theorem dX7_coordinate_41 : decode cX7_coordinate 41 = .ok (.aload_n 0, 1) := by decide +kernel
theorem dX7_coordinate_42 : decode cX7_coordinate 42 = .ok (.bipush 16, 2) := by decide +kernel
theorem dX7_coordinate_44 : decode cX7_coordinate 44 = .ok (.iload_n 1, 1) := by decide +kernel
theorem dX7_coordinate_45 : decode cX7_coordinate 45 = .ok (.imul, 1) := by decide +kernel
theorem dX7_coordinate_46 : decode cX7_coordinate 46 = .ok (.iload_n 2, 1) := by decide +kernel
theorem dX7_coordinate_47 : decode cX7_coordinate 47 = .ok (.iadd, 1) := by decide +kernel
theorem dX7_coordinate_48 : decode cX7_coordinate 48 = .ok (.iload_n 3, 1) := by decide +kernel
theorem dX7_coordinate_49 : decode cX7_coordinate 49 = .ok (.invokevirtual 136, 3) := by decide +kernel
theorem dX7_coordinate_52 : decode cX7_coordinate 52 = .ok (.aload_n 0, 1) := by decide +kernel
theorem dX7_coordinate_53 : decode cX7_coordinate 53 = .ok (.iload_n 3, 1) := by decide +kernel
theorem dX7_coordinate_54 : decode cX7_coordinate 54 = .ok (.invokevirtual 323, 3) := by decide +kernel
theorem dX7_coordinate_57 : decode cX7_coordinate 57 = .ok (.ireturn, 1) := by decide +kernel
theorem dX7_radicand_0 : decode cX7_radicand 0 = .ok (.aload_n 0, 1) := by decide +kernel
theorem dX7_radicand_1 : decode cX7_radicand 1 = .ok (.iconst 0, 1) := by decide +kernel
theorem dX7_radicand_2 : decode cX7_radicand 2 = .ok (.putfield 127, 3) := by decide +kernel
theorem dX7_radicand_5 : decode cX7_radicand 5 = .ok (.iload_n 1, 1) := by decide +kernel
theorem dX7_radicand_6 : decode cX7_radicand 6 = .ok (.iconst 1, 1) := by decide +kernel
theorem dX7_radicand_7 : decode cX7_radicand 7 = .ok (.if_icmp .lt 25, 3) := by decide +kernel
theorem dX7_radicand_10 : decode cX7_radicand 10 = .ok (.iload_n 1, 1) := by decide +kernel
theorem dX7_radicand_11 : decode cX7_radicand 11 = .ok (.aload_n 0, 1) := by decide +kernel
theorem dX7_radicand_12 : decode cX7_radicand 12 = .ok (.getfield 133, 3) := by decide +kernel
theorem dX7_radicand_15 : decode cX7_radicand 15 = .ok (.if_icmp .gt 17, 3) := by decide +kernel
theorem dX7_radicand_18 : decode cX7_radicand 18 = .ok (.iload_n 2, 1) := by decide +kernel
theorem dX7_radicand_19 : decode cX7_radicand 19 = .ok (.ifCond .lt 13, 3) := by decide +kernel
theorem dX7_radicand_22 : decode cX7_radicand 22 = .ok (.iload_n 2, 1) := by decide +kernel
theorem dX7_radicand_23 : decode cX7_radicand 23 = .ok (.iload_n 1, 1) := by decide +kernel
theorem dX7_radicand_24 : decode cX7_radicand 24 = .ok (.iconst 1, 1) := by decide +kernel
theorem dX7_radicand_25 : decode cX7_radicand 25 = .ok (.isub, 1) := by decide +kernel
theorem dX7_radicand_26 : decode cX7_radicand 26 = .ok (.invokestatic 130, 3) := by decide +kernel
theorem dX7_radicand_29 : decode cX7_radicand 29 = .ok (.if_icmp .lt 5, 3) := by decide +kernel
theorem dX7_radicand_32 : decode cX7_radicand 32 = .ok (.iconst (-1), 1) := by decide +kernel
theorem dX7_radicand_33 : decode cX7_radicand 33 = .ok (.ireturn, 1) := by decide +kernel
theorem dX7_radicand_34 : decode cX7_radicand 34 = .ok (.aload_n 0, 1) := by decide +kernel
theorem dX7_radicand_35 : decode cX7_radicand 35 = .ok (.iconst 0, 1) := by decide +kernel
theorem dX7_radicand_36 : decode cX7_radicand 36 = .ok (.putfield 1, 3) := by decide +kernel
theorem dX7_radicand_39 : decode cX7_radicand 39 = .ok (.aload_n 0, 1) := by decide +kernel
theorem dX7_radicand_40 : decode cX7_radicand 40 = .ok (.iconst 2, 1) := by decide +kernel
theorem dX7_radicand_41 : decode cX7_radicand 41 = .ok (.invokevirtual 43, 3) := by decide +kernel
theorem dX7_radicand_44 : decode cX7_radicand 44 = .ok (.istore_n 3, 1) := by decide +kernel
theorem dX7_radicand_45 : decode cX7_radicand 45 = .ok (.aload_n 0, 1) := by decide +kernel
theorem dX7_radicand_46 : decode cX7_radicand 46 = .ok (.bipush 16, 2) := by decide +kernel
theorem dX7_radicand_48 : decode cX7_radicand 48 = .ok (.bipush 60, 2) := by decide +kernel
theorem dX7_radicand_50 : decode cX7_radicand 50 = .ok (.iload_n 1, 1) := by decide +kernel
theorem dX7_radicand_51 : decode cX7_radicand 51 = .ok (.iadd, 1) := by decide +kernel
theorem dX7_radicand_52 : decode cX7_radicand 52 = .ok (.iconst 1, 1) := by decide +kernel
theorem dX7_radicand_53 : decode cX7_radicand 53 = .ok (.isub, 1) := by decide +kernel
theorem dX7_radicand_54 : decode cX7_radicand 54 = .ok (.imul, 1) := by decide +kernel
theorem dX7_radicand_55 : decode cX7_radicand 55 = .ok (.iload_n 2, 1) := by decide +kernel
theorem dX7_radicand_56 : decode cX7_radicand 56 = .ok (.iadd, 1) := by decide +kernel
theorem dX7_radicand_57 : decode cX7_radicand 57 = .ok (.iload_n 3, 1) := by decide +kernel
theorem dX7_radicand_58 : decode cX7_radicand 58 = .ok (.invokevirtual 136, 3) := by decide +kernel
theorem dX7_radicand_61 : decode cX7_radicand 61 = .ok (.aload_n 0, 1) := by decide +kernel
theorem dX7_radicand_62 : decode cX7_radicand 62 = .ok (.iload_n 3, 1) := by decide +kernel
theorem dX7_radicand_63 : decode cX7_radicand 63 = .ok (.invokevirtual 323, 3) := by decide +kernel
theorem dX7_radicand_66 : decode cX7_radicand 66 = .ok (.ireturn, 1) := by decide +kernel
theorem dX7_degree_0 : decode cX7_degree 0 = .ok (.aload_n 0, 1) := by decide +kernel
theorem dX7_degree_1 : decode cX7_degree 1 = .ok (.iconst 0, 1) := by decide +kernel
theorem dX7_degree_2 : decode cX7_degree 2 = .ok (.putfield 127, 3) := by decide +kernel
theorem dX7_degree_5 : decode cX7_degree 5 = .ok (.aload_n 0, 1) := by decide +kernel
theorem dX7_degree_6 : decode cX7_degree 6 = .ok (.iload_n 1, 1) := by decide +kernel
theorem dX7_degree_7 : decode cX7_degree 7 = .ok (.invokevirtual 297, 3) := by decide +kernel
theorem dX7_degree_10 : decode cX7_degree 10 = .ok (.ifCond .ne 5, 3) := by decide +kernel
theorem dX7_degree_13 : decode cX7_degree 13 = .ok (.iconst (-1), 1) := by decide +kernel
theorem dX7_degree_14 : decode cX7_degree 14 = .ok (.ireturn, 1) := by decide +kernel
theorem dX7_degree_15 : decode cX7_degree 15 = .ok (.aload_n 0, 1) := by decide +kernel
theorem dX7_degree_16 : decode cX7_degree 16 = .ok (.iconst 0, 1) := by decide +kernel
theorem dX7_degree_17 : decode cX7_degree 17 = .ok (.putfield 1, 3) := by decide +kernel
theorem dX7_degree_20 : decode cX7_degree 20 = .ok (.aload_n 0, 1) := by decide +kernel
theorem dX7_degree_21 : decode cX7_degree 21 = .ok (.iload_n 1, 1) := by decide +kernel
theorem dX7_degree_22 : decode cX7_degree 22 = .ok (.invokevirtual 347, 3) := by decide +kernel
theorem dX7_degree_25 : decode cX7_degree 25 = .ok (.ireturn, 1) := by decide +kernel
theorem dX7_equation_0 : decode cX7_equation 0 = .ok (.aload_n 0, 1) := by decide +kernel
theorem dX7_equation_1 : decode cX7_equation 1 = .ok (.iconst 0, 1) := by decide +kernel
theorem dX7_equation_2 : decode cX7_equation 2 = .ok (.putfield 127, 3) := by decide +kernel
theorem dX7_equation_5 : decode cX7_equation 5 = .ok (.aload_n 0, 1) := by decide +kernel
theorem dX7_equation_6 : decode cX7_equation 6 = .ok (.iload_n 1, 1) := by decide +kernel
theorem dX7_equation_7 : decode cX7_equation 7 = .ok (.invokevirtual 297, 3) := by decide +kernel
theorem dX7_equation_10 : decode cX7_equation 10 = .ok (.ifCond .eq 7, 3) := by decide +kernel
theorem dX7_equation_13 : decode cX7_equation 13 = .ok (.iload_n 2, 1) := by decide +kernel
theorem dX7_equation_14 : decode cX7_equation 14 = .ok (.ifCond .ge 5, 3) := by decide +kernel
theorem dX7_equation_17 : decode cX7_equation 17 = .ok (.iconst (-1), 1) := by decide +kernel
theorem dX7_equation_18 : decode cX7_equation 18 = .ok (.ireturn, 1) := by decide +kernel
theorem dX7_equation_19 : decode cX7_equation 19 = .ok (.aload_n 0, 1) := by decide +kernel
theorem dX7_equation_20 : decode cX7_equation 20 = .ok (.iconst 0, 1) := by decide +kernel
theorem dX7_equation_21 : decode cX7_equation 21 = .ok (.putfield 1, 3) := by decide +kernel
theorem dX7_equation_24 : decode cX7_equation 24 = .ok (.aload_n 0, 1) := by decide +kernel
theorem dX7_equation_25 : decode cX7_equation 25 = .ok (.iload_n 1, 1) := by decide +kernel
theorem dX7_equation_26 : decode cX7_equation 26 = .ok (.invokevirtual 347, 3) := by decide +kernel
theorem dX7_equation_29 : decode cX7_equation 29 = .ok (.istore_n 3, 1) := by decide +kernel
theorem dX7_equation_30 : decode cX7_equation 30 = .ok (.iload_n 2, 1) := by decide +kernel
theorem dX7_equation_31 : decode cX7_equation 31 = .ok (.iload_n 3, 1) := by decide +kernel
theorem dX7_equation_32 : decode cX7_equation 32 = .ok (.if_icmp .le 5, 3) := by decide +kernel
theorem dX7_equation_35 : decode cX7_equation 35 = .ok (.iconst (-1), 1) := by decide +kernel
theorem dX7_equation_36 : decode cX7_equation 36 = .ok (.ireturn, 1) := by decide +kernel
theorem dX7_equation_37 : decode cX7_equation 37 = .ok (.aload_n 0, 1) := by decide +kernel
theorem dX7_equation_38 : decode cX7_equation 38 = .ok (.getfield 332, 3) := by decide +kernel
theorem dX7_equation_41 : decode cX7_equation 41 = .ok (.iconst 2, 1) := by decide +kernel
theorem dX7_equation_42 : decode cX7_equation 42 = .ok (.iload_n 2, 1) := by decide +kernel
theorem dX7_equation_43 : decode cX7_equation 43 = .ok (.imul, 1) := by decide +kernel
theorem dX7_equation_44 : decode cX7_equation 44 = .ok (.iadd, 1) := by decide +kernel
theorem dX7_equation_45 : decode cX7_equation 45 = .ok (.istore 4, 2) := by decide +kernel
theorem dX7_equation_47 : decode cX7_equation 47 = .ok (.aload_n 0, 1) := by decide +kernel
theorem dX7_equation_48 : decode cX7_equation 48 = .ok (.iload 4, 2) := by decide +kernel
theorem dX7_equation_50 : decode cX7_equation 50 = .ok (.invokevirtual 73, 3) := by decide +kernel
theorem dX7_equation_53 : decode cX7_equation 53 = .ok (.sipush 400, 3) := by decide +kernel
theorem dX7_equation_56 : decode cX7_equation 56 = .ok (.if_icmp .gt 17, 3) := by decide +kernel
theorem dX7_equation_59 : decode cX7_equation 59 = .ok (.aload_n 0, 1) := by decide +kernel
theorem dX7_equation_60 : decode cX7_equation 60 = .ok (.iload 4, 2) := by decide +kernel
theorem dX7_equation_62 : decode cX7_equation 62 = .ok (.iconst 1, 1) := by decide +kernel
theorem dX7_equation_63 : decode cX7_equation 63 = .ok (.iadd, 1) := by decide +kernel
theorem dX7_equation_64 : decode cX7_equation 64 = .ok (.invokevirtual 73, 3) := by decide +kernel
theorem dX7_equation_67 : decode cX7_equation 67 = .ok (.sipush 400, 3) := by decide +kernel
theorem dX7_equation_70 : decode cX7_equation 70 = .ok (.if_icmp .le 8, 3) := by decide +kernel
theorem dX7_equation_73 : decode cX7_equation 73 = .ok (.bipush (-5), 2) := by decide +kernel
theorem dX7_equation_75 : decode cX7_equation 75 = .ok (.goto 9, 3) := by decide +kernel
theorem dX7_equation_78 : decode cX7_equation 78 = .ok (.aload_n 0, 1) := by decide +kernel
theorem dX7_equation_79 : decode cX7_equation 79 = .ok (.iload 4, 2) := by decide +kernel
theorem dX7_equation_81 : decode cX7_equation 81 = .ok (.invokevirtual 323, 3) := by decide +kernel
theorem dX7_equation_84 : decode cX7_equation 84 = .ok (.ireturn, 1) := by decide +kernel
theorem dX7_cut_0 : decode cX7_cut 0 = .ok (.aload_n 0, 1) := by decide +kernel
theorem dX7_cut_1 : decode cX7_cut 1 = .ok (.iconst 0, 1) := by decide +kernel
theorem dX7_cut_2 : decode cX7_cut 2 = .ok (.putfield 127, 3) := by decide +kernel
theorem dX7_cut_5 : decode cX7_cut 5 = .ok (.aload_n 0, 1) := by decide +kernel
theorem dX7_cut_6 : decode cX7_cut 6 = .ok (.iload_n 1, 1) := by decide +kernel
theorem dX7_cut_7 : decode cX7_cut 7 = .ok (.invokevirtual 297, 3) := by decide +kernel
theorem dX7_cut_10 : decode cX7_cut 10 = .ok (.ifCond .eq 13, 3) := by decide +kernel
theorem dX7_cut_13 : decode cX7_cut 13 = .ok (.iload_n 2, 1) := by decide +kernel
theorem dX7_cut_14 : decode cX7_cut 14 = .ok (.ifCond .lt 9, 3) := by decide +kernel
theorem dX7_cut_17 : decode cX7_cut 17 = .ok (.iload_n 2, 1) := by decide +kernel
theorem dX7_cut_18 : decode cX7_cut 18 = .ok (.bipush 6, 2) := by decide +kernel
theorem dX7_cut_20 : decode cX7_cut 20 = .ok (.if_icmp .le 5, 3) := by decide +kernel
theorem dX7_cut_23 : decode cX7_cut 23 = .ok (.iconst (-1), 1) := by decide +kernel
theorem dX7_cut_24 : decode cX7_cut 24 = .ok (.ireturn, 1) := by decide +kernel
theorem dX7_cut_25 : decode cX7_cut 25 = .ok (.aload_n 0, 1) := by decide +kernel
theorem dX7_cut_26 : decode cX7_cut 26 = .ok (.iconst 0, 1) := by decide +kernel
theorem dX7_cut_27 : decode cX7_cut 27 = .ok (.putfield 1, 3) := by decide +kernel
theorem dX7_cut_30 : decode cX7_cut 30 = .ok (.aload_n 0, 1) := by decide +kernel
theorem dX7_cut_31 : decode cX7_cut 31 = .ok (.aload_n 0, 1) := by decide +kernel
theorem dX7_cut_32 : decode cX7_cut 32 = .ok (.getfield 133, 3) := by decide +kernel
theorem dX7_cut_35 : decode cX7_cut 35 = .ok (.invokevirtual 230, 3) := by decide +kernel
theorem dX7_cut_38 : decode cX7_cut 38 = .ok (.istore_n 3, 1) := by decide +kernel
theorem dX7_cut_39 : decode cX7_cut 39 = .ok (.aload_n 0, 1) := by decide +kernel
theorem dX7_cut_40 : decode cX7_cut 40 = .ok (.iload_n 1, 1) := by decide +kernel
theorem dX7_cut_41 : decode cX7_cut 41 = .ok (.iload_n 3, 1) := by decide +kernel
theorem dX7_cut_42 : decode cX7_cut 42 = .ok (.invokevirtual 301, 3) := by decide +kernel
theorem dX7_cut_45 : decode cX7_cut 45 = .ok (.aload_n 0, 1) := by decide +kernel
theorem dX7_cut_46 : decode cX7_cut 46 = .ok (.iload_n 3, 1) := by decide +kernel
theorem dX7_cut_47 : decode cX7_cut 47 = .ok (.ldc2_w 350, 3) := by decide +kernel
theorem dX7_cut_50 : decode cX7_cut 50 = .ok (.lconst 1, 1) := by decide +kernel
theorem dX7_cut_51 : decode cX7_cut 51 = .ok (.invokevirtual 352, 3) := by decide +kernel
theorem dX7_cut_54 : decode cX7_cut 54 = .ok (.ifCond .le 15, 3) := by decide +kernel
theorem dX7_cut_57 : decode cX7_cut 57 = .ok (.aload_n 0, 1) := by decide +kernel
theorem dX7_cut_58 : decode cX7_cut 58 = .ok (.iload_n 3, 1) := by decide +kernel
theorem dX7_cut_59 : decode cX7_cut 59 = .ok (.ldc2_w 356, 3) := by decide +kernel
theorem dX7_cut_62 : decode cX7_cut 62 = .ok (.lconst 1, 1) := by decide +kernel
theorem dX7_cut_63 : decode cX7_cut 63 = .ok (.invokevirtual 352, 3) := by decide +kernel
theorem dX7_cut_66 : decode cX7_cut 66 = .ok (.ifCond .lt 5, 3) := by decide +kernel
theorem dX7_cut_69 : decode cX7_cut 69 = .ok (.iconst (-1), 1) := by decide +kernel
theorem dX7_cut_70 : decode cX7_cut 70 = .ok (.ireturn, 1) := by decide +kernel
theorem dX7_cut_71 : decode cX7_cut 71 = .ok (.lconst 1, 1) := by decide +kernel
theorem dX7_cut_72 : decode cX7_cut 72 = .ok (.lstore 4, 2) := by decide +kernel
theorem dX7_cut_74 : decode cX7_cut 74 = .ok (.iconst 0, 1) := by decide +kernel
theorem dX7_cut_75 : decode cX7_cut 75 = .ok (.istore 6, 2) := by decide +kernel
theorem dX7_cut_77 : decode cX7_cut 77 = .ok (.iload 6, 2) := by decide +kernel
theorem dX7_cut_79 : decode cX7_cut 79 = .ok (.iload_n 2, 1) := by decide +kernel
theorem dX7_cut_80 : decode cX7_cut 80 = .ok (.if_icmp .ge 17, 3) := by decide +kernel
theorem dX7_cut_83 : decode cX7_cut 83 = .ok (.lload 4, 2) := by decide +kernel
theorem dX7_cut_85 : decode cX7_cut 85 = .ok (.ldc2_w 68, 3) := by decide +kernel
theorem dX7_cut_88 : decode cX7_cut 88 = .ok (.lmul, 1) := by decide +kernel
theorem dX7_cut_89 : decode cX7_cut 89 = .ok (.lstore 4, 2) := by decide +kernel
theorem dX7_cut_91 : decode cX7_cut 91 = .ok (.iinc 6 1, 3) := by decide +kernel
theorem dX7_cut_94 : decode cX7_cut 94 = .ok (.goto (-17), 3) := by decide +kernel
theorem dX7_cut_97 : decode cX7_cut 97 = .ok (.ldc2_w 350, 3) := by decide +kernel
theorem dX7_cut_100 : decode cX7_cut 100 = .ok (.lload 4, 2) := by decide +kernel
theorem dX7_denest_0 : decode cX7_denest 0 = .ok (.aload_n 0, 1) := by decide +kernel
theorem dX7_denest_1 : decode cX7_denest 1 = .ok (.iconst 0, 1) := by decide +kernel
theorem dX7_denest_2 : decode cX7_denest 2 = .ok (.putfield 127, 3) := by decide +kernel
theorem dX7_denest_5 : decode cX7_denest 5 = .ok (.aload_n 0, 1) := by decide +kernel
theorem dX7_denest_6 : decode cX7_denest 6 = .ok (.iload_n 1, 1) := by decide +kernel
theorem dX7_denest_7 : decode cX7_denest 7 = .ok (.invokevirtual 297, 3) := by decide +kernel
theorem dX7_denest_10 : decode cX7_denest 10 = .ok (.ifCond .eq 21, 3) := by decide +kernel
theorem dX7_denest_13 : decode cX7_denest 13 = .ok (.iload_n 2, 1) := by decide +kernel
theorem dX7_denest_14 : decode cX7_denest 14 = .ok (.ifCond .lt 17, 3) := by decide +kernel
theorem dX7_denest_17 : decode cX7_denest 17 = .ok (.iload_n 2, 1) := by decide +kernel
theorem dX7_denest_18 : decode cX7_denest 18 = .ok (.iconst 1, 1) := by decide +kernel
theorem dX7_denest_19 : decode cX7_denest 19 = .ok (.if_icmp .gt 12, 3) := by decide +kernel
theorem dX7_denest_22 : decode cX7_denest 22 = .ok (.aload_n 0, 1) := by decide +kernel
theorem dX7_denest_23 : decode cX7_denest 23 = .ok (.iload_n 1, 1) := by decide +kernel
theorem dX7_denest_24 : decode cX7_denest 24 = .ok (.invokevirtual 320, 3) := by decide +kernel
theorem dX7_denest_27 : decode cX7_denest 27 = .ok (.iconst 1, 1) := by decide +kernel
theorem dX7_denest_28 : decode cX7_denest 28 = .ok (.if_icmp .le 5, 3) := by decide +kernel
theorem dX7_denest_31 : decode cX7_denest 31 = .ok (.iconst (-1), 1) := by decide +kernel
theorem dX7_denest_32 : decode cX7_denest 32 = .ok (.ireturn, 1) := by decide +kernel
theorem dX7_denest_33 : decode cX7_denest 33 = .ok (.aload_n 0, 1) := by decide +kernel
theorem dX7_denest_34 : decode cX7_denest 34 = .ok (.iconst 0, 1) := by decide +kernel
theorem dX7_denest_35 : decode cX7_denest 35 = .ok (.putfield 1, 3) := by decide +kernel
theorem dX7_denest_38 : decode cX7_denest 38 = .ok (.aload_n 0, 1) := by decide +kernel
theorem dX7_denest_39 : decode cX7_denest 39 = .ok (.iconst 2, 1) := by decide +kernel
theorem dX7_denest_40 : decode cX7_denest 40 = .ok (.invokevirtual 43, 3) := by decide +kernel
theorem dX7_denest_43 : decode cX7_denest 43 = .ok (.istore_n 3, 1) := by decide +kernel
theorem dX7_denest_44 : decode cX7_denest 44 = .ok (.aload_n 0, 1) := by decide +kernel
theorem dX7_denest_45 : decode cX7_denest 45 = .ok (.iconst 2, 1) := by decide +kernel
theorem dX7_denest_46 : decode cX7_denest 46 = .ok (.invokevirtual 43, 3) := by decide +kernel
theorem dX7_denest_49 : decode cX7_denest 49 = .ok (.istore 4, 2) := by decide +kernel
theorem dX7_denest_51 : decode cX7_denest 51 = .ok (.aload_n 0, 1) := by decide +kernel
theorem dX7_denest_52 : decode cX7_denest 52 = .ok (.iconst 4, 1) := by decide +kernel
theorem dX7_denest_53 : decode cX7_denest 53 = .ok (.invokevirtual 43, 3) := by decide +kernel
theorem dX7_denest_56 : decode cX7_denest 56 = .ok (.istore 5, 2) := by decide +kernel
theorem dX7_denest_58 : decode cX7_denest 58 = .ok (.aload_n 0, 1) := by decide +kernel
theorem dX7_denest_59 : decode cX7_denest 59 = .ok (.bipush 16, 2) := by decide +kernel
theorem dX7_denest_61 : decode cX7_denest 61 = .ok (.iload_n 1, 1) := by decide +kernel
theorem dX7_denest_62 : decode cX7_denest 62 = .ok (.imul, 1) := by decide +kernel
theorem dX7_denest_63 : decode cX7_denest 63 = .ok (.iload_n 3, 1) := by decide +kernel
theorem dX7_denest_64 : decode cX7_denest 64 = .ok (.invokevirtual 136, 3) := by decide +kernel
theorem dX7_denest_67 : decode cX7_denest 67 = .ok (.aload_n 0, 1) := by decide +kernel
theorem dX7_denest_68 : decode cX7_denest 68 = .ok (.iload 4, 2) := by decide +kernel
theorem dX7_denest_70 : decode cX7_denest 70 = .ok (.lconst 0, 1) := by decide +kernel
theorem dX7_denest_71 : decode cX7_denest 71 = .ok (.lconst 1, 1) := by decide +kernel
theorem dX7_denest_72 : decode cX7_denest 72 = .ok (.invokevirtual 85, 3) := by decide +kernel
theorem dX7_denest_75 : decode cX7_denest 75 = .ok (.aload_n 0, 1) := by decide +kernel
theorem dX7_denest_76 : decode cX7_denest 76 = .ok (.getfield 133, 3) := by decide +kernel
theorem dX7_denest_79 : decode cX7_denest 79 = .ok (.ifCond .le 44, 3) := by decide +kernel
theorem dX7_denest_82 : decode cX7_denest 82 = .ok (.aload_n 0, 1) := by decide +kernel
theorem dX7_denest_83 : decode cX7_denest 83 = .ok (.bipush 16, 2) := by decide +kernel
theorem dX7_denest_85 : decode cX7_denest 85 = .ok (.iload_n 1, 1) := by decide +kernel
theorem dX7_denest_86 : decode cX7_denest 86 = .ok (.imul, 1) := by decide +kernel
theorem dX7_denest_87 : decode cX7_denest 87 = .ok (.iconst 1, 1) := by decide +kernel
theorem dX7_denest_88 : decode cX7_denest 88 = .ok (.iadd, 1) := by decide +kernel
theorem dX7_denest_89 : decode cX7_denest 89 = .ok (.iload 4, 2) := by decide +kernel
theorem dX7_denest_91 : decode cX7_denest 91 = .ok (.invokevirtual 136, 3) := by decide +kernel
theorem dX7_denest_94 : decode cX7_denest 94 = .ok (.aload_n 0, 1) := by decide +kernel
theorem dX7_denest_95 : decode cX7_denest 95 = .ok (.sipush 960, 3) := by decide +kernel
theorem dX7_denest_98 : decode cX7_denest 98 = .ok (.iload 5, 2) := by decide +kernel
theorem dX7_denest_100 : decode cX7_denest 100 = .ok (.invokevirtual 136, 3) := by decide +kernel
theorem dX7_text_0 : decode cX7_text 0 = .ok (.aload_n 0, 1) := by decide +kernel
theorem dX7_text_1 : decode cX7_text 1 = .ok (.iconst 0, 1) := by decide +kernel
theorem dX7_text_2 : decode cX7_text 2 = .ok (.putfield 127, 3) := by decide +kernel
theorem dX7_text_5 : decode cX7_text 5 = .ok (.aload_n 0, 1) := by decide +kernel
theorem dX7_text_6 : decode cX7_text 6 = .ok (.iload_n 1, 1) := by decide +kernel
theorem dX7_text_7 : decode cX7_text 7 = .ok (.invokevirtual 297, 3) := by decide +kernel
theorem dX7_text_10 : decode cX7_text 10 = .ok (.ifCond .ne 5, 3) := by decide +kernel
theorem dX7_text_13 : decode cX7_text 13 = .ok (.iconst (-1), 1) := by decide +kernel
theorem dX7_text_14 : decode cX7_text 14 = .ok (.ireturn, 1) := by decide +kernel
theorem dX7_text_15 : decode cX7_text 15 = .ok (.aload_n 0, 1) := by decide +kernel
theorem dX7_text_16 : decode cX7_text 16 = .ok (.iconst 0, 1) := by decide +kernel
theorem dX7_text_17 : decode cX7_text 17 = .ok (.putfield 358, 3) := by decide +kernel
theorem dX7_text_20 : decode cX7_text 20 = .ok (.aload_n 0, 1) := by decide +kernel
theorem dX7_text_21 : decode cX7_text 21 = .ok (.iconst 0, 1) := by decide +kernel
theorem dX7_text_22 : decode cX7_text 22 = .ok (.putfield 1, 3) := by decide +kernel
theorem dX7_text_25 : decode cX7_text 25 = .ok (.aload_n 0, 1) := by decide +kernel
theorem dX7_text_26 : decode cX7_text 26 = .ok (.iconst 2, 1) := by decide +kernel
theorem dX7_text_27 : decode cX7_text 27 = .ok (.invokevirtual 43, 3) := by decide +kernel
theorem dX7_text_30 : decode cX7_text 30 = .ok (.istore_n 2, 1) := by decide +kernel
theorem dX7_text_31 : decode cX7_text 31 = .ok (.iconst 0, 1) := by decide +kernel
theorem dX7_text_32 : decode cX7_text 32 = .ok (.istore_n 3, 1) := by decide +kernel
theorem dX7_text_33 : decode cX7_text 33 = .ok (.iload_n 3, 1) := by decide +kernel
theorem dX7_text_34 : decode cX7_text 34 = .ok (.aload_n 0, 1) := by decide +kernel
theorem dX7_text_35 : decode cX7_text 35 = .ok (.getfield 133, 3) := by decide +kernel
theorem dX7_text_38 : decode cX7_text 38 = .ok (.invokestatic 130, 3) := by decide +kernel
theorem dX7_text_41 : decode cX7_text 41 = .ok (.if_icmp .ge 155, 3) := by decide +kernel
theorem dX7_text_44 : decode cX7_text 44 = .ok (.aload_n 0, 1) := by decide +kernel
theorem dX7_text_45 : decode cX7_text 45 = .ok (.bipush 16, 2) := by decide +kernel
theorem dX7_text_47 : decode cX7_text 47 = .ok (.iload_n 1, 1) := by decide +kernel
theorem dX7_text_48 : decode cX7_text 48 = .ok (.imul, 1) := by decide +kernel
theorem dX7_text_49 : decode cX7_text 49 = .ok (.iload_n 3, 1) := by decide +kernel
theorem dX7_text_50 : decode cX7_text 50 = .ok (.iadd, 1) := by decide +kernel
theorem dX7_text_51 : decode cX7_text 51 = .ok (.iload_n 2, 1) := by decide +kernel
theorem dX7_text_52 : decode cX7_text 52 = .ok (.invokevirtual 136, 3) := by decide +kernel
theorem dX7_text_55 : decode cX7_text 55 = .ok (.aload_n 0, 1) := by decide +kernel
theorem dX7_text_56 : decode cX7_text 56 = .ok (.getfield 7, 3) := by decide +kernel
theorem dX7_text_59 : decode cX7_text 59 = .ok (.iload_n 2, 1) := by decide +kernel
theorem dX7_text_60 : decode cX7_text 60 = .ok (.iaload, 1) := by decide +kernel
theorem dX7_text_61 : decode cX7_text 61 = .ok (.ifCond .eq 129, 3) := by decide +kernel
theorem dX7_text_64 : decode cX7_text 64 = .ok (.aload_n 0, 1) := by decide +kernel
theorem dX7_text_65 : decode cX7_text 65 = .ok (.getfield 7, 3) := by decide +kernel
theorem dX7_text_68 : decode cX7_text 68 = .ok (.iload_n 2, 1) := by decide +kernel
theorem dX7_text_69 : decode cX7_text 69 = .ok (.iaload, 1) := by decide +kernel
theorem dX7_text_70 : decode cX7_text 70 = .ok (.ifCond .ge 12, 3) := by decide +kernel
theorem dX7_text_73 : decode cX7_text 73 = .ok (.aload_n 0, 1) := by decide +kernel
theorem dX7_text_74 : decode cX7_text 74 = .ok (.bipush 45, 2) := by decide +kernel
theorem dX7_text_76 : decode cX7_text 76 = .ok (.invokevirtual 364, 3) := by decide +kernel
theorem dX7_text_79 : decode cX7_text 79 = .ok (.goto 16, 3) := by decide +kernel
theorem dX7_text_82 : decode cX7_text 82 = .ok (.aload_n 0, 1) := by decide +kernel
theorem dX7_text_83 : decode cX7_text 83 = .ok (.getfield 358, 3) := by decide +kernel
theorem dX7_text_86 : decode cX7_text 86 = .ok (.ifCond .le 9, 3) := by decide +kernel
theorem dX7_text_89 : decode cX7_text 89 = .ok (.aload_n 0, 1) := by decide +kernel
theorem dX7_text_90 : decode cX7_text 90 = .ok (.bipush 43, 2) := by decide +kernel
theorem dX7_text_92 : decode cX7_text 92 = .ok (.invokevirtual 364, 3) := by decide +kernel
theorem dX7_text_95 : decode cX7_text 95 = .ok (.aload_n 0, 1) := by decide +kernel
theorem dX7_text_96 : decode cX7_text 96 = .ok (.iload_n 2, 1) := by decide +kernel
theorem dX7_text_97 : decode cX7_text 97 = .ok (.invokevirtual 367, 3) := by decide +kernel
theorem dX7_text_100 : decode cX7_text 100 = .ok (.aload_n 0, 1) := by decide +kernel
theorem dX7_letter_0 : decode cX7_letter 0 = .ok (.aload_n 0, 1) := by decide +kernel
theorem dX7_letter_1 : decode cX7_letter 1 = .ok (.iload_n 1, 1) := by decide +kernel
theorem dX7_letter_2 : decode cX7_letter 2 = .ok (.ifCond .lt 15, 3) := by decide +kernel
theorem dX7_letter_5 : decode cX7_letter 5 = .ok (.iload_n 1, 1) := by decide +kernel
theorem dX7_letter_6 : decode cX7_letter 6 = .ok (.aload_n 0, 1) := by decide +kernel
theorem dX7_letter_7 : decode cX7_letter 7 = .ok (.getfield 358, 3) := by decide +kernel
theorem dX7_letter_10 : decode cX7_letter 10 = .ok (.if_icmp .ge 7, 3) := by decide +kernel
theorem dX7_letter_13 : decode cX7_letter 13 = .ok (.iconst 0, 1) := by decide +kernel
theorem dX7_letter_14 : decode cX7_letter 14 = .ok (.goto 4, 3) := by decide +kernel
theorem dX7_letter_17 : decode cX7_letter 17 = .ok (.iconst 1, 1) := by decide +kernel
theorem dX7_letter_18 : decode cX7_letter 18 = .ok (.putfield 127, 3) := by decide +kernel
theorem dX7_letter_21 : decode cX7_letter 21 = .ok (.aload_n 0, 1) := by decide +kernel
theorem dX7_letter_22 : decode cX7_letter 22 = .ok (.getfield 127, 3) := by decide +kernel
theorem dX7_letter_25 : decode cX7_letter 25 = .ok (.ifCond .le 7, 3) := by decide +kernel
theorem dX7_letter_28 : decode cX7_letter 28 = .ok (.iconst 0, 1) := by decide +kernel
theorem dX7_letter_29 : decode cX7_letter 29 = .ok (.goto 9, 3) := by decide +kernel
theorem dX7_letter_32 : decode cX7_letter 32 = .ok (.aload_n 0, 1) := by decide +kernel
theorem dX7_letter_33 : decode cX7_letter 33 = .ok (.getfield 120, 3) := by decide +kernel
theorem dX7_letter_36 : decode cX7_letter 36 = .ok (.iload_n 1, 1) := by decide +kernel
theorem dX7_letter_37 : decode cX7_letter 37 = .ok (.iaload, 1) := by decide +kernel
theorem dX7_letter_38 : decode cX7_letter 38 = .ok (.ireturn, 1) := by decide +kernel
theorem dX7_keptTo_0 : decode cX7_keptTo 0 = .ok (.iconst 0, 1) := by decide +kernel
theorem dX7_keptTo_1 : decode cX7_keptTo 1 = .ok (.istore_n 2, 1) := by decide +kernel
theorem dX7_keptTo_2 : decode cX7_keptTo 2 = .ok (.iload_n 2, 1) := by decide +kernel
theorem dX7_keptTo_3 : decode cX7_keptTo 3 = .ok (.iconst 2, 1) := by decide +kernel
theorem dX7_keptTo_4 : decode cX7_keptTo 4 = .ok (.if_icmp .ge 81, 3) := by decide +kernel
theorem dX7_keptTo_7 : decode cX7_keptTo 7 = .ok (.aload_n 0, 1) := by decide +kernel
theorem dX7_keptTo_8 : decode cX7_keptTo 8 = .ok (.getfield 11, 3) := by decide +kernel
theorem dX7_keptTo_11 : decode cX7_keptTo 11 = .ok (.iload_n 1, 1) := by decide +kernel
theorem dX7_keptTo_12 : decode cX7_keptTo 12 = .ok (.iload_n 2, 1) := by decide +kernel
theorem dX7_keptTo_13 : decode cX7_keptTo 13 = .ok (.iadd, 1) := by decide +kernel
theorem dX7_keptTo_14 : decode cX7_keptTo 14 = .ok (.aload_n 0, 1) := by decide +kernel
theorem dX7_keptTo_15 : decode cX7_keptTo 15 = .ok (.getfield 114, 3) := by decide +kernel
theorem dX7_keptTo_18 : decode cX7_keptTo 18 = .ok (.iload_n 2, 1) := by decide +kernel
theorem dX7_keptTo_19 : decode cX7_keptTo 19 = .ok (.iaload, 1) := by decide +kernel
theorem dX7_keptTo_20 : decode cX7_keptTo 20 = .ok (.iastore, 1) := by decide +kernel
theorem dX7_keptTo_21 : decode cX7_keptTo 21 = .ok (.aload_n 0, 1) := by decide +kernel
theorem dX7_keptTo_22 : decode cX7_keptTo 22 = .ok (.getfield 7, 3) := by decide +kernel
theorem dX7_keptTo_25 : decode cX7_keptTo 25 = .ok (.iload_n 1, 1) := by decide +kernel
theorem dX7_keptTo_26 : decode cX7_keptTo 26 = .ok (.iload_n 2, 1) := by decide +kernel
theorem dX7_keptTo_27 : decode cX7_keptTo 27 = .ok (.iadd, 1) := by decide +kernel
theorem dX7_keptTo_28 : decode cX7_keptTo 28 = .ok (.aload_n 0, 1) := by decide +kernel
theorem dX7_keptTo_29 : decode cX7_keptTo 29 = .ok (.getfield 117, 3) := by decide +kernel
theorem dX7_keptTo_32 : decode cX7_keptTo 32 = .ok (.iload_n 2, 1) := by decide +kernel
theorem dX7_keptTo_33 : decode cX7_keptTo 33 = .ok (.iaload, 1) := by decide +kernel
theorem dX7_keptTo_34 : decode cX7_keptTo 34 = .ok (.iastore, 1) := by decide +kernel
theorem dX7_keptTo_35 : decode cX7_keptTo 35 = .ok (.iconst 0, 1) := by decide +kernel
theorem dX7_keptTo_36 : decode cX7_keptTo 36 = .ok (.istore_n 3, 1) := by decide +kernel
theorem dX7_keptTo_37 : decode cX7_keptTo 37 = .ok (.iload_n 3, 1) := by decide +kernel
theorem dX7_keptTo_38 : decode cX7_keptTo 38 = .ok (.aload_n 0, 1) := by decide +kernel
theorem dX7_keptTo_39 : decode cX7_keptTo 39 = .ok (.getfield 114, 3) := by decide +kernel
theorem dX7_keptTo_42 : decode cX7_keptTo 42 = .ok (.iload_n 2, 1) := by decide +kernel
theorem dX7_keptTo_43 : decode cX7_keptTo 43 = .ok (.iaload, 1) := by decide +kernel
theorem dX7_keptTo_44 : decode cX7_keptTo 44 = .ok (.if_icmp .ge 35, 3) := by decide +kernel
theorem dX7_keptTo_47 : decode cX7_keptTo 47 = .ok (.aload_n 0, 1) := by decide +kernel
theorem dX7_keptTo_48 : decode cX7_keptTo 48 = .ok (.getfield 16, 3) := by decide +kernel
theorem dX7_keptTo_51 : decode cX7_keptTo 51 = .ok (.sipush 2500, 3) := by decide +kernel
theorem dX7_keptTo_54 : decode cX7_keptTo 54 = .ok (.iload_n 1, 1) := by decide +kernel
theorem dX7_keptTo_55 : decode cX7_keptTo 55 = .ok (.iload_n 2, 1) := by decide +kernel
theorem dX7_keptTo_56 : decode cX7_keptTo 56 = .ok (.iadd, 1) := by decide +kernel
theorem dX7_keptTo_57 : decode cX7_keptTo 57 = .ok (.imul, 1) := by decide +kernel
theorem dX7_keptTo_58 : decode cX7_keptTo 58 = .ok (.iload_n 3, 1) := by decide +kernel
theorem dX7_keptTo_59 : decode cX7_keptTo 59 = .ok (.iadd, 1) := by decide +kernel
theorem dX7_keptTo_60 : decode cX7_keptTo 60 = .ok (.aload_n 0, 1) := by decide +kernel
theorem dX7_keptTo_61 : decode cX7_keptTo 61 = .ok (.getfield 111, 3) := by decide +kernel
theorem dX7_keptTo_64 : decode cX7_keptTo 64 = .ok (.sipush 2500, 3) := by decide +kernel
theorem dX7_keptTo_67 : decode cX7_keptTo 67 = .ok (.iload_n 2, 1) := by decide +kernel
theorem dX7_keptTo_68 : decode cX7_keptTo 68 = .ok (.imul, 1) := by decide +kernel
theorem dX7_keptTo_69 : decode cX7_keptTo 69 = .ok (.iload_n 3, 1) := by decide +kernel
theorem dX7_keptTo_70 : decode cX7_keptTo 70 = .ok (.iadd, 1) := by decide +kernel
theorem dX7_keptTo_71 : decode cX7_keptTo 71 = .ok (.iaload, 1) := by decide +kernel
theorem dX7_keptTo_72 : decode cX7_keptTo 72 = .ok (.iastore, 1) := by decide +kernel
theorem dX7_keptTo_73 : decode cX7_keptTo 73 = .ok (.iinc 3 1, 3) := by decide +kernel
theorem dX7_keptTo_76 : decode cX7_keptTo 76 = .ok (.goto (-39), 3) := by decide +kernel
theorem dX7_keptTo_79 : decode cX7_keptTo 79 = .ok (.iinc 2 1, 3) := by decide +kernel
theorem dX7_keptTo_82 : decode cX7_keptTo 82 = .ok (.goto (-80), 3) := by decide +kernel
theorem dX7_keptTo_85 : decode cX7_keptTo 85 = .ok (.return_, 1) := by decide +kernel
theorem dX7_result_0 : decode cX7_result 0 = .ok (.aload_n 0, 1) := by decide +kernel
theorem dX7_result_1 : decode cX7_result 1 = .ok (.iconst 0, 1) := by decide +kernel
theorem dX7_result_2 : decode cX7_result 2 = .ok (.putfield 127, 3) := by decide +kernel
theorem dX7_result_5 : decode cX7_result 5 = .ok (.iload_n 1, 1) := by decide +kernel
theorem dX7_result_6 : decode cX7_result 6 = .ok (.ifCond .lt 8, 3) := by decide +kernel
theorem dX7_result_9 : decode cX7_result 9 = .ok (.iload_n 1, 1) := by decide +kernel
theorem dX7_result_10 : decode cX7_result 10 = .ok (.iconst 2, 1) := by decide +kernel
theorem dX7_result_11 : decode cX7_result 11 = .ok (.if_icmp .le 6, 3) := by decide +kernel
theorem dX7_result_14 : decode cX7_result 14 = .ok (.bipush (-2), 2) := by decide +kernel
theorem dX7_result_16 : decode cX7_result 16 = .ok (.ireturn, 1) := by decide +kernel
theorem dX7_result_17 : decode cX7_result 17 = .ok (.aload_n 0, 1) := by decide +kernel
theorem dX7_result_18 : decode cX7_result 18 = .ok (.iconst 0, 1) := by decide +kernel
theorem dX7_result_19 : decode cX7_result 19 = .ok (.putfield 1, 3) := by decide +kernel
theorem dX7_result_22 : decode cX7_result 22 = .ok (.aload_n 0, 1) := by decide +kernel
theorem dX7_result_23 : decode cX7_result 23 = .ok (.iconst 2, 1) := by decide +kernel
theorem dX7_result_24 : decode cX7_result 24 = .ok (.invokevirtual 43, 3) := by decide +kernel
theorem dX7_result_27 : decode cX7_result 27 = .ok (.istore_n 2, 1) := by decide +kernel
theorem dX7_result_28 : decode cX7_result 28 = .ok (.aload_n 0, 1) := by decide +kernel
theorem dX7_result_29 : decode cX7_result 29 = .ok (.iload_n 2, 1) := by decide +kernel
theorem dX7_result_30 : decode cX7_result 30 = .ok (.invokevirtual 370, 3) := by decide +kernel
theorem dX7_result_33 : decode cX7_result 33 = .ok (.iload_n 1, 1) := by decide +kernel
theorem dX7_result_34 : decode cX7_result 34 = .ok (.ifCond .ne 12, 3) := by decide +kernel
theorem dX7_result_37 : decode cX7_result 37 = .ok (.aload_n 0, 1) := by decide +kernel
theorem dX7_result_38 : decode cX7_result 38 = .ok (.getfield 7, 3) := by decide +kernel
theorem dX7_result_41 : decode cX7_result 41 = .ok (.iload_n 2, 1) := by decide +kernel
theorem dX7_result_42 : decode cX7_result 42 = .ok (.iaload, 1) := by decide +kernel
theorem dX7_result_43 : decode cX7_result 43 = .ok (.goto 12, 3) := by decide +kernel
theorem dX7_result_46 : decode cX7_result 46 = .ok (.aload_n 0, 1) := by decide +kernel
theorem dX7_result_47 : decode cX7_result 47 = .ok (.iload_n 2, 1) := by decide +kernel
theorem dX7_result_48 : decode cX7_result 48 = .ok (.iload_n 1, 1) := by decide +kernel
theorem dX7_result_49 : decode cX7_result 49 = .ok (.iadd, 1) := by decide +kernel
theorem dX7_result_50 : decode cX7_result 50 = .ok (.iconst 1, 1) := by decide +kernel
theorem dX7_result_51 : decode cX7_result 51 = .ok (.isub, 1) := by decide +kernel
theorem dX7_result_52 : decode cX7_result 52 = .ok (.invokevirtual 73, 3) := by decide +kernel
theorem dX7_result_55 : decode cX7_result 55 = .ok (.ireturn, 1) := by decide +kernel
theorem dX7_figure_0 : decode cX7_figure 0 = .ok (.aload_n 0, 1) := by decide +kernel
theorem dX7_figure_1 : decode cX7_figure 1 = .ok (.iconst 0, 1) := by decide +kernel
theorem dX7_figure_2 : decode cX7_figure 2 = .ok (.putfield 127, 3) := by decide +kernel
theorem dX7_figure_5 : decode cX7_figure 5 = .ok (.aload_n 0, 1) := by decide +kernel
theorem dX7_figure_6 : decode cX7_figure 6 = .ok (.iconst 0, 1) := by decide +kernel
theorem dX7_figure_7 : decode cX7_figure 7 = .ok (.putfield 1, 3) := by decide +kernel
theorem dX7_figure_10 : decode cX7_figure 10 = .ok (.aload_n 0, 1) := by decide +kernel
theorem dX7_figure_11 : decode cX7_figure 11 = .ok (.iconst 2, 1) := by decide +kernel
theorem dX7_figure_12 : decode cX7_figure 12 = .ok (.invokevirtual 43, 3) := by decide +kernel
theorem dX7_figure_15 : decode cX7_figure 15 = .ok (.istore_n 3, 1) := by decide +kernel
theorem dX7_figure_16 : decode cX7_figure 16 = .ok (.aload_n 0, 1) := by decide +kernel
theorem dX7_figure_17 : decode cX7_figure 17 = .ok (.iload_n 3, 1) := by decide +kernel
theorem dX7_figure_18 : decode cX7_figure 18 = .ok (.invokevirtual 370, 3) := by decide +kernel
theorem dX7_figure_21 : decode cX7_figure 21 = .ok (.iload_n 1, 1) := by decide +kernel
theorem dX7_figure_22 : decode cX7_figure 22 = .ok (.ifCond .lt 23, 3) := by decide +kernel
theorem dX7_figure_25 : decode cX7_figure 25 = .ok (.iload_n 1, 1) := by decide +kernel
theorem dX7_figure_26 : decode cX7_figure 26 = .ok (.iconst 1, 1) := by decide +kernel
theorem dX7_figure_27 : decode cX7_figure 27 = .ok (.if_icmp .gt 18, 3) := by decide +kernel
theorem dX7_figure_30 : decode cX7_figure 30 = .ok (.iload_n 2, 1) := by decide +kernel
theorem dX7_figure_31 : decode cX7_figure 31 = .ok (.ifCond .lt 14, 3) := by decide +kernel
theorem dX7_figure_34 : decode cX7_figure 34 = .ok (.iload_n 2, 1) := by decide +kernel
theorem dX7_figure_35 : decode cX7_figure 35 = .ok (.aload_n 0, 1) := by decide +kernel
theorem dX7_figure_36 : decode cX7_figure 36 = .ok (.iload_n 3, 1) := by decide +kernel
theorem dX7_figure_37 : decode cX7_figure 37 = .ok (.iload_n 1, 1) := by decide +kernel
theorem dX7_figure_38 : decode cX7_figure 38 = .ok (.iadd, 1) := by decide +kernel
theorem dX7_figure_39 : decode cX7_figure 39 = .ok (.invokevirtual 73, 3) := by decide +kernel
theorem dX7_figure_42 : decode cX7_figure 42 = .ok (.if_icmp .lt 7, 3) := by decide +kernel
theorem dX7_figure_45 : decode cX7_figure 45 = .ok (.iconst (-1), 1) := by decide +kernel
theorem dX7_figure_46 : decode cX7_figure 46 = .ok (.goto 11, 3) := by decide +kernel
theorem dX7_figure_49 : decode cX7_figure 49 = .ok (.aload_n 0, 1) := by decide +kernel
theorem dX7_figure_50 : decode cX7_figure 50 = .ok (.iload_n 3, 1) := by decide +kernel
theorem dX7_figure_51 : decode cX7_figure 51 = .ok (.iload_n 1, 1) := by decide +kernel
theorem dX7_figure_52 : decode cX7_figure 52 = .ok (.iadd, 1) := by decide +kernel
theorem dX7_figure_53 : decode cX7_figure 53 = .ok (.iload_n 2, 1) := by decide +kernel
theorem dX7_figure_54 : decode cX7_figure 54 = .ok (.invokevirtual 361, 3) := by decide +kernel
theorem dX7_figure_57 : decode cX7_figure 57 = .ok (.ireturn, 1) := by decide +kernel
theorem dX7_told_0 : decode cX7_told 0 = .ok (.aload_n 0, 1) := by decide +kernel
theorem dX7_told_1 : decode cX7_told 1 = .ok (.iconst 0, 1) := by decide +kernel
theorem dX7_told_2 : decode cX7_told 2 = .ok (.putfield 127, 3) := by decide +kernel
theorem dX7_told_5 : decode cX7_told 5 = .ok (.iload_n 1, 1) := by decide +kernel
theorem dX7_told_6 : decode cX7_told 6 = .ok (.ifCond .ne 10, 3) := by decide +kernel
theorem dX7_told_9 : decode cX7_told 9 = .ok (.aload_n 0, 1) := by decide +kernel
theorem dX7_told_10 : decode cX7_told 10 = .ok (.getfield 133, 3) := by decide +kernel
theorem dX7_told_13 : decode cX7_told 13 = .ok (.goto 16, 3) := by decide +kernel
theorem dX7_told_16 : decode cX7_told 16 = .ok (.iload_n 1, 1) := by decide +kernel
theorem dX7_told_17 : decode cX7_told 17 = .ok (.iconst 1, 1) := by decide +kernel
theorem dX7_told_18 : decode cX7_told 18 = .ok (.if_icmp .ne 10, 3) := by decide +kernel
theorem dX7_told_21 : decode cX7_told 21 = .ok (.aload_n 0, 1) := by decide +kernel
theorem dX7_told_22 : decode cX7_told 22 = .ok (.getfield 285, 3) := by decide +kernel
theorem dX7_told_25 : decode cX7_told 25 = .ok (.goto 4, 3) := by decide +kernel
theorem dX7_told_28 : decode cX7_told 28 = .ok (.iconst (-1), 1) := by decide +kernel
theorem dX7_told_29 : decode cX7_told 29 = .ok (.ireturn, 1) := by decide +kernel
theorem dX7_clear_0 : decode cX7_clear 0 = .ok (.aload_n 0, 1) := by decide +kernel
theorem dX7_clear_1 : decode cX7_clear 1 = .ok (.iconst 0, 1) := by decide +kernel
theorem dX7_clear_2 : decode cX7_clear 2 = .ok (.putfield 127, 3) := by decide +kernel
theorem dX7_clear_5 : decode cX7_clear 5 = .ok (.aload_n 0, 1) := by decide +kernel
theorem dX7_clear_6 : decode cX7_clear 6 = .ok (.getfield 285, 3) := by decide +kernel
theorem dX7_clear_9 : decode cX7_clear 9 = .ok (.istore_n 1, 1) := by decide +kernel
theorem dX7_clear_10 : decode cX7_clear 10 = .ok (.aload_n 0, 1) := by decide +kernel
theorem dX7_clear_11 : decode cX7_clear 11 = .ok (.iconst 0, 1) := by decide +kernel
theorem dX7_clear_12 : decode cX7_clear 12 = .ok (.putfield 285, 3) := by decide +kernel
theorem dX7_clear_15 : decode cX7_clear 15 = .ok (.aload_n 0, 1) := by decide +kernel
theorem dX7_clear_16 : decode cX7_clear 16 = .ok (.iconst 0, 1) := by decide +kernel
theorem dX7_clear_17 : decode cX7_clear 17 = .ok (.putfield 133, 3) := by decide +kernel
theorem dX7_clear_20 : decode cX7_clear 20 = .ok (.aload_n 0, 1) := by decide +kernel
theorem dX7_clear_21 : decode cX7_clear 21 = .ok (.iconst 0, 1) := by decide +kernel
theorem dX7_clear_22 : decode cX7_clear 22 = .ok (.putfield 358, 3) := by decide +kernel
theorem dX7_clear_25 : decode cX7_clear 25 = .ok (.aload_n 0, 1) := by decide +kernel
theorem dX7_clear_26 : decode cX7_clear 26 = .ok (.iconst 0, 1) := by decide +kernel
theorem dX7_clear_27 : decode cX7_clear 27 = .ok (.putfield 1, 3) := by decide +kernel
theorem dX7_clear_30 : decode cX7_clear 30 = .ok (.aload_n 0, 1) := by decide +kernel
theorem dX7_clear_31 : decode cX7_clear 31 = .ok (.iconst 2, 1) := by decide +kernel
theorem dX7_clear_32 : decode cX7_clear 32 = .ok (.invokevirtual 43, 3) := by decide +kernel
theorem dX7_clear_35 : decode cX7_clear 35 = .ok (.istore_n 2, 1) := by decide +kernel
theorem dX7_clear_36 : decode cX7_clear 36 = .ok (.aload_n 0, 1) := by decide +kernel
theorem dX7_clear_37 : decode cX7_clear 37 = .ok (.iload_n 2, 1) := by decide +kernel
theorem dX7_clear_38 : decode cX7_clear 38 = .ok (.lconst 0, 1) := by decide +kernel
theorem dX7_clear_39 : decode cX7_clear 39 = .ok (.lconst 1, 1) := by decide +kernel
theorem dX7_clear_40 : decode cX7_clear 40 = .ok (.invokevirtual 85, 3) := by decide +kernel
theorem dX7_clear_43 : decode cX7_clear 43 = .ok (.aload_n 0, 1) := by decide +kernel
theorem dX7_clear_44 : decode cX7_clear 44 = .ok (.iload_n 2, 1) := by decide +kernel
theorem dX7_clear_45 : decode cX7_clear 45 = .ok (.invokevirtual 323, 3) := by decide +kernel
theorem dX7_clear_48 : decode cX7_clear 48 = .ok (.istore_n 3, 1) := by decide +kernel
theorem dX7_clear_49 : decode cX7_clear 49 = .ok (.iload_n 1, 1) := by decide +kernel
theorem dX7_clear_50 : decode cX7_clear 50 = .ok (.ireturn, 1) := by decide +kernel
