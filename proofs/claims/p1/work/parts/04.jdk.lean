abbrev cJ7_fill_fda19 : ByteArray := prog_26_method_104_code
def yJ7_fill_fda19 : MethodName := ⟨RJ7, "fill", "([IIII)V"⟩
theorem mlX3_J7_fill_fda19 : Cond.methodLink RX3 51 yJ7_fill_fda19 ∈ gT := gT_mem (List.mem_of_getElem? (i := 242) (by decide +kernel)) rfl
theorem stJ7_fill_fda19 : Cond.static yJ7_fill_fda19 ∈ gT := gT_mem (List.mem_of_getElem? (i := 243) (by decide +kernel)) rfl
theorem cdJ7_fill_fda19 : Cond.code yJ7_fill_fda19 cJ7_fill_fda19 5 none ∈ gT := gT_mem (List.mem_of_getElem? (i := 244) (by decide +kernel)) rfl
theorem dJ7_fill_fda19_0 : decode cJ7_fill_fda19 0 = .ok (.aload_n 0, 1) := by decide +kernel
theorem dJ7_fill_fda19_1 : decode cJ7_fill_fda19 1 = .ok (.arraylength, 1) := by decide +kernel
theorem dJ7_fill_fda19_2 : decode cJ7_fill_fda19 2 = .ok (.iload_n 1, 1) := by decide +kernel
theorem dJ7_fill_fda19_3 : decode cJ7_fill_fda19 3 = .ok (.iload_n 2, 1) := by decide +kernel
theorem dJ7_fill_fda19_4 : decode cJ7_fill_fda19 4 = .ok (.invokestatic 13, 3) := by decide +kernel
theorem dJ7_fill_fda19_7 : decode cJ7_fill_fda19 7 = .ok (.iload_n 1, 1) := by decide +kernel
theorem dJ7_fill_fda19_8 : decode cJ7_fill_fda19 8 = .ok (.istore 4, 2) := by decide +kernel
theorem dJ7_fill_fda19_10 : decode cJ7_fill_fda19 10 = .ok (.iload 4, 2) := by decide +kernel
theorem dJ7_fill_fda19_12 : decode cJ7_fill_fda19 12 = .ok (.iload_n 2, 1) := by decide +kernel
theorem dJ7_fill_fda19_13 : decode cJ7_fill_fda19 13 = .ok (.if_icmp .ge 14, 3) := by decide +kernel
theorem dJ7_fill_fda19_16 : decode cJ7_fill_fda19 16 = .ok (.aload_n 0, 1) := by decide +kernel
theorem dJ7_fill_fda19_17 : decode cJ7_fill_fda19 17 = .ok (.iload 4, 2) := by decide +kernel
theorem dJ7_fill_fda19_19 : decode cJ7_fill_fda19 19 = .ok (.iload_n 3, 1) := by decide +kernel
theorem dJ7_fill_fda19_20 : decode cJ7_fill_fda19 20 = .ok (.iastore, 1) := by decide +kernel
theorem dJ7_fill_fda19_21 : decode cJ7_fill_fda19 21 = .ok (.iinc 4 1, 3) := by decide +kernel
theorem dJ7_fill_fda19_24 : decode cJ7_fill_fda19 24 = .ok (.goto (-14), 3) := by decide +kernel
theorem dJ7_fill_fda19_27 : decode cJ7_fill_fda19 27 = .ok (.return_, 1) := by decide +kernel
abbrev cJ7_rangeCheck_23922 : ByteArray := prog_26_method_30_code
def yJ7_rangeCheck_23922 : MethodName := ⟨RJ7, "rangeCheck", "(III)V"⟩
theorem mlJ7_J7_rangeCheck_23922 : Cond.methodLink RJ7 13 yJ7_rangeCheck_23922 ∈ gT := gT_mem (List.mem_of_getElem? (i := 245) (by decide +kernel)) rfl
theorem stJ7_rangeCheck_23922 : Cond.static yJ7_rangeCheck_23922 ∈ gT := gT_mem (List.mem_of_getElem? (i := 246) (by decide +kernel)) rfl
theorem cdJ7_rangeCheck_23922 : Cond.code yJ7_rangeCheck_23922 cJ7_rangeCheck_23922 3 none ∈ gT := gT_mem (List.mem_of_getElem? (i := 247) (by decide +kernel)) rfl
theorem dJ7_rangeCheck_23922_0 : decode cJ7_rangeCheck_23922 0 = .ok (.iload_n 1, 1) := by decide +kernel
theorem dJ7_rangeCheck_23922_1 : decode cJ7_rangeCheck_23922 1 = .ok (.iload_n 2, 1) := by decide +kernel
theorem dJ7_rangeCheck_23922_2 : decode cJ7_rangeCheck_23922 2 = .ok (.if_icmp .le 44, 3) := by decide +kernel
theorem dJ7_rangeCheck_23922_5 : decode cJ7_rangeCheck_23922 5 = .ok (.new 43, 3) := by decide +kernel
theorem dJ7_rangeCheck_23922_8 : decode cJ7_rangeCheck_23922 8 = .ok (.dup, 1) := by decide +kernel
theorem dJ7_rangeCheck_23922_9 : decode cJ7_rangeCheck_23922 9 = .ok (.new 45, 3) := by decide +kernel
theorem dJ7_rangeCheck_23922_12 : decode cJ7_rangeCheck_23922 12 = .ok (.dup, 1) := by decide +kernel
theorem dJ7_rangeCheck_23922_13 : decode cJ7_rangeCheck_23922 13 = .ok (.invokespecial 47, 3) := by decide +kernel
theorem dJ7_rangeCheck_23922_16 : decode cJ7_rangeCheck_23922 16 = .ok (.ldc 48, 2) := by decide +kernel
theorem dJ7_rangeCheck_23922_18 : decode cJ7_rangeCheck_23922 18 = .ok (.invokevirtual 50, 3) := by decide +kernel
theorem dJ7_rangeCheck_23922_21 : decode cJ7_rangeCheck_23922 21 = .ok (.iload_n 1, 1) := by decide +kernel
theorem dJ7_rangeCheck_23922_22 : decode cJ7_rangeCheck_23922 22 = .ok (.invokevirtual 54, 3) := by decide +kernel
theorem dJ7_rangeCheck_23922_25 : decode cJ7_rangeCheck_23922 25 = .ok (.ldc 57, 2) := by decide +kernel
theorem dJ7_rangeCheck_23922_27 : decode cJ7_rangeCheck_23922 27 = .ok (.invokevirtual 50, 3) := by decide +kernel
theorem dJ7_rangeCheck_23922_30 : decode cJ7_rangeCheck_23922 30 = .ok (.iload_n 2, 1) := by decide +kernel
theorem dJ7_rangeCheck_23922_31 : decode cJ7_rangeCheck_23922 31 = .ok (.invokevirtual 54, 3) := by decide +kernel
theorem dJ7_rangeCheck_23922_34 : decode cJ7_rangeCheck_23922 34 = .ok (.ldc 59, 2) := by decide +kernel
theorem dJ7_rangeCheck_23922_36 : decode cJ7_rangeCheck_23922 36 = .ok (.invokevirtual 50, 3) := by decide +kernel
theorem dJ7_rangeCheck_23922_39 : decode cJ7_rangeCheck_23922 39 = .ok (.invokevirtual 61, 3) := by decide +kernel
theorem dJ7_rangeCheck_23922_42 : decode cJ7_rangeCheck_23922 42 = .ok (.invokespecial 65, 3) := by decide +kernel
theorem dJ7_rangeCheck_23922_45 : decode cJ7_rangeCheck_23922 45 = .ok (.athrow, 1) := by decide +kernel
theorem dJ7_rangeCheck_23922_46 : decode cJ7_rangeCheck_23922 46 = .ok (.iload_n 1, 1) := by decide +kernel
theorem dJ7_rangeCheck_23922_47 : decode cJ7_rangeCheck_23922 47 = .ok (.ifCond .ge 12, 3) := by decide +kernel
theorem dJ7_rangeCheck_23922_50 : decode cJ7_rangeCheck_23922 50 = .ok (.new 68, 3) := by decide +kernel
theorem dJ7_rangeCheck_23922_53 : decode cJ7_rangeCheck_23922 53 = .ok (.dup, 1) := by decide +kernel
theorem dJ7_rangeCheck_23922_54 : decode cJ7_rangeCheck_23922 54 = .ok (.iload_n 1, 1) := by decide +kernel
theorem dJ7_rangeCheck_23922_55 : decode cJ7_rangeCheck_23922 55 = .ok (.invokespecial 70, 3) := by decide +kernel
theorem dJ7_rangeCheck_23922_58 : decode cJ7_rangeCheck_23922 58 = .ok (.athrow, 1) := by decide +kernel
theorem dJ7_rangeCheck_23922_59 : decode cJ7_rangeCheck_23922 59 = .ok (.iload_n 2, 1) := by decide +kernel
theorem dJ7_rangeCheck_23922_60 : decode cJ7_rangeCheck_23922 60 = .ok (.iload_n 0, 1) := by decide +kernel
theorem dJ7_rangeCheck_23922_61 : decode cJ7_rangeCheck_23922 61 = .ok (.if_icmp .le 12, 3) := by decide +kernel
theorem dJ7_rangeCheck_23922_64 : decode cJ7_rangeCheck_23922 64 = .ok (.new 68, 3) := by decide +kernel
theorem dJ7_rangeCheck_23922_67 : decode cJ7_rangeCheck_23922 67 = .ok (.dup, 1) := by decide +kernel
theorem dJ7_rangeCheck_23922_68 : decode cJ7_rangeCheck_23922 68 = .ok (.iload_n 2, 1) := by decide +kernel
theorem dJ7_rangeCheck_23922_69 : decode cJ7_rangeCheck_23922 69 = .ok (.invokespecial 70, 3) := by decide +kernel
theorem dJ7_rangeCheck_23922_72 : decode cJ7_rangeCheck_23922 72 = .ok (.athrow, 1) := by decide +kernel
theorem dJ7_rangeCheck_23922_73 : decode cJ7_rangeCheck_23922 73 = .ok (.return_, 1) := by decide +kernel
abbrev cJ9_abs_067f4 : ByteArray := prog_18_method_61_code
def yJ9_abs_067f4 : MethodName := ⟨RJ9, "abs", "(J)J"⟩
theorem mlX3_J9_abs_067f4 : Cond.methodLink RX3 135 yJ9_abs_067f4 ∈ gT := gT_mem (List.mem_of_getElem? (i := 638) (by decide +kernel)) rfl
theorem stJ9_abs_067f4 : Cond.static yJ9_abs_067f4 ∈ gT := gT_mem (List.mem_of_getElem? (i := 639) (by decide +kernel)) rfl
theorem cdJ9_abs_067f4 : Cond.code yJ9_abs_067f4 cJ9_abs_067f4 2 (some .long) ∈ gT := gT_mem (List.mem_of_getElem? (i := 640) (by decide +kernel)) rfl
theorem dJ9_abs_067f4_0 : decode cJ9_abs_067f4 0 = .ok (.lload_n 0, 1) := by decide +kernel
theorem dJ9_abs_067f4_1 : decode cJ9_abs_067f4 1 = .ok (.lconst 0, 1) := by decide +kernel
theorem dJ9_abs_067f4_2 : decode cJ9_abs_067f4 2 = .ok (.lcmp, 1) := by decide +kernel
theorem dJ9_abs_067f4_3 : decode cJ9_abs_067f4 3 = .ok (.ifCond .ge 8, 3) := by decide +kernel
theorem dJ9_abs_067f4_6 : decode cJ9_abs_067f4 6 = .ok (.lload_n 0, 1) := by decide +kernel
theorem dJ9_abs_067f4_7 : decode cJ9_abs_067f4 7 = .ok (.lneg, 1) := by decide +kernel
theorem dJ9_abs_067f4_8 : decode cJ9_abs_067f4 8 = .ok (.goto 4, 3) := by decide +kernel
theorem dJ9_abs_067f4_11 : decode cJ9_abs_067f4 11 = .ok (.lload_n 0, 1) := by decide +kernel
theorem dJ9_abs_067f4_12 : decode cJ9_abs_067f4 12 = .ok (.lreturn, 1) := by decide +kernel
abbrev cJ9_floorMod_f86c9 : ByteArray := prog_18_method_52_code
def yJ9_floorMod_f86c9 : MethodName := ⟨RJ9, "floorMod", "(JJ)J"⟩
theorem mlX3_J9_floorMod_f86c9 : Cond.methodLink RX3 139 yJ9_floorMod_f86c9 ∈ gT := gT_mem (List.mem_of_getElem? (i := 641) (by decide +kernel)) rfl
theorem stJ9_floorMod_f86c9 : Cond.static yJ9_floorMod_f86c9 ∈ gT := gT_mem (List.mem_of_getElem? (i := 642) (by decide +kernel)) rfl
theorem cdJ9_floorMod_f86c9 : Cond.code yJ9_floorMod_f86c9 cJ9_floorMod_f86c9 6 (some .long) ∈ gT := gT_mem (List.mem_of_getElem? (i := 643) (by decide +kernel)) rfl
theorem dJ9_floorMod_f86c9_0 : decode cJ9_floorMod_f86c9 0 = .ok (.lload_n 0, 1) := by decide +kernel
theorem dJ9_floorMod_f86c9_1 : decode cJ9_floorMod_f86c9 1 = .ok (.lload_n 2, 1) := by decide +kernel
theorem dJ9_floorMod_f86c9_2 : decode cJ9_floorMod_f86c9 2 = .ok (.lrem, 1) := by decide +kernel
theorem dJ9_floorMod_f86c9_3 : decode cJ9_floorMod_f86c9 3 = .ok (.lstore 4, 2) := by decide +kernel
theorem dJ9_floorMod_f86c9_5 : decode cJ9_floorMod_f86c9 5 = .ok (.lload_n 0, 1) := by decide +kernel
theorem dJ9_floorMod_f86c9_6 : decode cJ9_floorMod_f86c9 6 = .ok (.lload_n 2, 1) := by decide +kernel
theorem dJ9_floorMod_f86c9_7 : decode cJ9_floorMod_f86c9 7 = .ok (.lxor, 1) := by decide +kernel
theorem dJ9_floorMod_f86c9_8 : decode cJ9_floorMod_f86c9 8 = .ok (.lconst 0, 1) := by decide +kernel
theorem dJ9_floorMod_f86c9_9 : decode cJ9_floorMod_f86c9 9 = .ok (.lcmp, 1) := by decide +kernel
theorem dJ9_floorMod_f86c9_10 : decode cJ9_floorMod_f86c9 10 = .ok (.ifCond .ge 15, 3) := by decide +kernel
theorem dJ9_floorMod_f86c9_13 : decode cJ9_floorMod_f86c9 13 = .ok (.lload 4, 2) := by decide +kernel
theorem dJ9_floorMod_f86c9_15 : decode cJ9_floorMod_f86c9 15 = .ok (.lconst 0, 1) := by decide +kernel
theorem dJ9_floorMod_f86c9_16 : decode cJ9_floorMod_f86c9 16 = .ok (.lcmp, 1) := by decide +kernel
theorem dJ9_floorMod_f86c9_17 : decode cJ9_floorMod_f86c9 17 = .ok (.ifCond .eq 8, 3) := by decide +kernel
theorem dJ9_floorMod_f86c9_20 : decode cJ9_floorMod_f86c9 20 = .ok (.lload 4, 2) := by decide +kernel
theorem dJ9_floorMod_f86c9_22 : decode cJ9_floorMod_f86c9 22 = .ok (.lload_n 2, 1) := by decide +kernel
theorem dJ9_floorMod_f86c9_23 : decode cJ9_floorMod_f86c9 23 = .ok (.ladd, 1) := by decide +kernel
theorem dJ9_floorMod_f86c9_24 : decode cJ9_floorMod_f86c9 24 = .ok (.lreturn, 1) := by decide +kernel
theorem dJ9_floorMod_f86c9_25 : decode cJ9_floorMod_f86c9 25 = .ok (.lload 4, 2) := by decide +kernel
theorem dJ9_floorMod_f86c9_27 : decode cJ9_floorMod_f86c9 27 = .ok (.lreturn, 1) := by decide +kernel
abbrev cJ9_floorDiv_f86c9 : ByteArray := prog_18_method_49_code
def yJ9_floorDiv_f86c9 : MethodName := ⟨RJ9, "floorDiv", "(JJ)J"⟩
theorem mlX3_J9_floorDiv_f86c9 : Cond.methodLink RX3 143 yJ9_floorDiv_f86c9 ∈ gT := gT_mem (List.mem_of_getElem? (i := 644) (by decide +kernel)) rfl
theorem stJ9_floorDiv_f86c9 : Cond.static yJ9_floorDiv_f86c9 ∈ gT := gT_mem (List.mem_of_getElem? (i := 645) (by decide +kernel)) rfl
theorem cdJ9_floorDiv_f86c9 : Cond.code yJ9_floorDiv_f86c9 cJ9_floorDiv_f86c9 6 (some .long) ∈ gT := gT_mem (List.mem_of_getElem? (i := 646) (by decide +kernel)) rfl
theorem dJ9_floorDiv_f86c9_0 : decode cJ9_floorDiv_f86c9 0 = .ok (.lload_n 0, 1) := by decide +kernel
theorem dJ9_floorDiv_f86c9_1 : decode cJ9_floorDiv_f86c9 1 = .ok (.lload_n 2, 1) := by decide +kernel
theorem dJ9_floorDiv_f86c9_2 : decode cJ9_floorDiv_f86c9 2 = .ok (.ldiv, 1) := by decide +kernel
theorem dJ9_floorDiv_f86c9_3 : decode cJ9_floorDiv_f86c9 3 = .ok (.lstore 4, 2) := by decide +kernel
theorem dJ9_floorDiv_f86c9_5 : decode cJ9_floorDiv_f86c9 5 = .ok (.lload_n 0, 1) := by decide +kernel
theorem dJ9_floorDiv_f86c9_6 : decode cJ9_floorDiv_f86c9 6 = .ok (.lload_n 2, 1) := by decide +kernel
theorem dJ9_floorDiv_f86c9_7 : decode cJ9_floorDiv_f86c9 7 = .ok (.lxor, 1) := by decide +kernel
theorem dJ9_floorDiv_f86c9_8 : decode cJ9_floorDiv_f86c9 8 = .ok (.lconst 0, 1) := by decide +kernel
theorem dJ9_floorDiv_f86c9_9 : decode cJ9_floorDiv_f86c9 9 = .ok (.lcmp, 1) := by decide +kernel
theorem dJ9_floorDiv_f86c9_10 : decode cJ9_floorDiv_f86c9 10 = .ok (.ifCond .ge 17, 3) := by decide +kernel
theorem dJ9_floorDiv_f86c9_13 : decode cJ9_floorDiv_f86c9 13 = .ok (.lload 4, 2) := by decide +kernel
theorem dJ9_floorDiv_f86c9_15 : decode cJ9_floorDiv_f86c9 15 = .ok (.lload_n 2, 1) := by decide +kernel
theorem dJ9_floorDiv_f86c9_16 : decode cJ9_floorDiv_f86c9 16 = .ok (.lmul, 1) := by decide +kernel
theorem dJ9_floorDiv_f86c9_17 : decode cJ9_floorDiv_f86c9 17 = .ok (.lload_n 0, 1) := by decide +kernel
theorem dJ9_floorDiv_f86c9_18 : decode cJ9_floorDiv_f86c9 18 = .ok (.lcmp, 1) := by decide +kernel
theorem dJ9_floorDiv_f86c9_19 : decode cJ9_floorDiv_f86c9 19 = .ok (.ifCond .eq 8, 3) := by decide +kernel
theorem dJ9_floorDiv_f86c9_22 : decode cJ9_floorDiv_f86c9 22 = .ok (.lload 4, 2) := by decide +kernel
theorem dJ9_floorDiv_f86c9_24 : decode cJ9_floorDiv_f86c9 24 = .ok (.lconst 1, 1) := by decide +kernel
theorem dJ9_floorDiv_f86c9_25 : decode cJ9_floorDiv_f86c9 25 = .ok (.lsub, 1) := by decide +kernel
theorem dJ9_floorDiv_f86c9_26 : decode cJ9_floorDiv_f86c9 26 = .ok (.lreturn, 1) := by decide +kernel
theorem dJ9_floorDiv_f86c9_27 : decode cJ9_floorDiv_f86c9 27 = .ok (.lload 4, 2) := by decide +kernel
theorem dJ9_floorDiv_f86c9_29 : decode cJ9_floorDiv_f86c9 29 = .ok (.lreturn, 1) := by decide +kernel
theorem iniJ9 : Cond.initialized RJ9 ∈ gT := gT_mem (List.mem_of_getElem? (i := 8) (by decide +kernel)) rfl
theorem iniMath : Cond.initialized "java/lang/Math" ∈ gT := gT_mem (List.mem_of_getElem? (i := 8) (by decide +kernel)) rfl
theorem iniJ7 : Cond.initialized RJ7 ∈ gT := gT_mem (List.mem_of_getElem? (i := 9) (by decide +kernel)) rfl
theorem iniSys : Cond.initialized "java/lang/System" ∈ gT := gT_mem (List.mem_of_getElem? (i := 10) (by decide +kernel)) rfl
theorem mlX3_max : Cond.methodLink RX3 29 Lib.Math.max.name ∈ gT := gT_mem (List.mem_of_getElem? (i := 202) (by decide +kernel)) rfl
theorem stMax : Cond.static Lib.Math.max.name ∈ gT := gT_mem (List.mem_of_getElem? (i := 203) (by decide +kernel)) rfl
theorem cdMax : Cond.code Lib.Math.max.name Lib.Math.max.code 2 (some .int) ∈ gT := gT_mem (List.mem_of_getElem? (i := 204) (by decide +kernel)) rfl
theorem stMin : Cond.static Lib.Math.min.name ∈ gT := gT_mem (List.mem_of_getElem? (i := 216) (by decide +kernel)) rfl
theorem cdMin : Cond.code Lib.Math.min.name Lib.Math.min.code 2 (some .int) ∈ gT := gT_mem (List.mem_of_getElem? (i := 217) (by decide +kernel)) rfl
theorem acSt : Cond.static arraycopyName ∈ gT := gT_mem (List.mem_of_getElem? (i := 219) (by decide +kernel)) rfl
theorem acNat : Cond.native arraycopyName ∈ gT := gT_mem (List.mem_of_getElem? (i := 220) (by decide +kernel)) rfl
theorem mlX3_ac : Cond.methodLink RX3 58 arraycopyName ∈ gT := gT_mem (List.mem_of_getElem? (i := 545) (by decide +kernel)) rfl
theorem flX3_TENS : Cond.fieldLink "RootTowers$Numbers" (149) "RootTowers$Numbers" "TENS" "[I" ∈ gT := gT_mem (List.mem_of_getElem? (i := 632) (by decide +kernel)) rfl
theorem mlX3_min : Cond.methodLink RX3 72 Lib.Math.min.name ∈ gT := gT_mem (List.mem_of_getElem? (i := 708) (by decide +kernel)) rfl
theorem flX0_TENS : Cond.fieldLink "RootTowers$Elements" (120) "RootTowers$Numbers" "TENS" "[I" ∈ gT := gT_mem (List.mem_of_getElem? (i := 996) (by decide +kernel)) rfl
theorem flX6_TENS : Cond.fieldLink "RootTowers" (153) "RootTowers$Numbers" "TENS" "[I" ∈ gT := gT_mem (List.mem_of_getElem? (i := 1013) (by decide +kernel)) rfl
theorem mlX6_obj : Cond.methodLink RX6 1 objectInit ∈ gT := gT_mem (List.mem_of_getElem? (i := 32) (by decide +kernel)) rfl
theorem imObj : Cond.instanceMethod objectInit ∈ gT := gT_mem (List.mem_of_getElem? (i := 33) (by decide +kernel)) rfl
theorem cdObj : Cond.code objectInit ⟨#[0xb1]⟩ 1 none ∈ gT := gT_mem (List.mem_of_getElem? (i := 34) (by decide +kernel)) rfl
theorem mlX3_obj : Cond.methodLink RX3 5 objectInit ∈ gT := gT_mem (List.mem_of_getElem? (i := 40) (by decide +kernel)) rfl
theorem arr_int : Cond.arrayClass .int ∈ gT := gT_mem (List.mem_of_getElem? (i := 64) (by decide +kernel)) rfl
theorem mlX1_obj : Cond.methodLink RX1 3 objectInit ∈ gT := gT_mem (List.mem_of_getElem? (i := 70) (by decide +kernel)) rfl
theorem mlX0_obj : Cond.methodLink RX0 3 objectInit ∈ gT := gT_mem (List.mem_of_getElem? (i := 93) (by decide +kernel)) rfl
theorem mlX5_obj : Cond.methodLink RX5 3 objectInit ∈ gT := gT_mem (List.mem_of_getElem? (i := 99) (by decide +kernel)) rfl
theorem mlX2_obj : Cond.methodLink RX2 3 objectInit ∈ gT := gT_mem (List.mem_of_getElem? (i := 146) (by decide +kernel)) rfl
theorem mlX4_obj : Cond.methodLink RX4 3 objectInit ∈ gT := gT_mem (List.mem_of_getElem? (i := 172) (by decide +kernel)) rfl
theorem arr_byte : Cond.arrayClass .byte ∈ gT := gT_mem (List.mem_of_getElem? (i := 185) (by decide +kernel)) rfl
theorem mlX7_obj : Cond.methodLink RX7 95 objectInit ∈ gT := gT_mem (List.mem_of_getElem? (i := 1128) (by decide +kernel)) rfl
theorem arr_long : Cond.arrayClass .long ∈ gT := gT_mem (List.mem_of_getElem? (i := 1645) (by decide +kernel)) rfl
