/-! the words that every method here stands on: the tables' good ones -/
def gT : List Cond := lw_tbl.filter goodWord
theorem gT_good (w : Cond) (h : w ∈ gT) : (w.onTables && w.keeps) = true ∨ ∃ ty, w = .arrayClass ty := good_of_word (List.mem_filter.mp h).2
theorem gT_mem {w : Cond} (h : w ∈ tables_1) (hg : goodWord w = true) : w ∈ gT := List.mem_filter.mpr ⟨List.mem_append_right _ h, hg⟩
theorem gT_sel {y : MethodName} {n : Nat} (h : (y, n) ∈ lw_privs) : Cond.selects y.cls y y ∈ gT := List.mem_filter.mpr ⟨List.mem_append_left _ (List.mem_map.mpr ⟨(y, n), h, rfl⟩), rfl⟩
theorem gc {w c0 : Cond} (h : w ∈ gT) : w ∈ c0 :: gT := List.mem_cons_of_mem _ h
theorem gI {c0 c1 : Cond} (h : c1 ∈ gT) : GoodIn (c0 :: gT) (c1 :: gT) := by
  intro w hw
  rcases List.mem_cons.mp hw with e | h2
  · subst e; exact ⟨gc h, gT_good _ h⟩
  · exact ⟨gc h2, gT_good _ h2⟩
theorem gV {c0 c1 : Cond} {own K : String} {idx : Nat} {y : MethodName} (h1 : Cond.methodLink own idx y ∈ gT) (h2 : Cond.instanceMethod y ∈ gT) (h3 : Cond.selects K y y ∈ gT) (h4 : Cond.initialized K ∈ gT) (h5 : c1 ∈ gT) : GoodIn (c0 :: gT) (wsV own idx K y (c1 :: gT)) := by
  intro w hw
  unfold wsV at hw
  rcases List.mem_append.mp hw with h | h
  · have hm : w ∈ gT := by
      simp only [List.mem_cons, List.not_mem_nil, or_false] at h
      rcases h with rfl | rfl | rfl | rfl <;> assumption
    exact ⟨gc hm, gT_good _ hm⟩
  · exact gI h5 w h
theorem gSt {c0 c1 : Cond} {own : String} {idx : Nat} {y : MethodName} (h1 : Cond.methodLink own idx y ∈ gT) (h2 : Cond.static y ∈ gT) (h4 : Cond.initialized own ∈ gT) (h5 : c1 ∈ gT) : GoodIn (c0 :: gT) (wsS own idx y (c1 :: gT)) := by
  intro w hw
  unfold wsS at hw
  rcases List.mem_append.mp hw with h | h
  · have hm : w ∈ gT := by
      simp only [List.mem_cons, List.not_mem_nil, or_false] at h
      rcases h with rfl | rfl | rfl <;> assumption
    exact ⟨gc hm, gT_good _ hm⟩
  · exact gI h5 w h
theorem inX0 : ∀ w ∈ wsX00, w ∈ gT := by decide +kernel
theorem iniX0 : Cond.initialized RX0 ∈ gT := gT_mem (List.mem_of_getElem? (i := 4) (by decide +kernel)) rfl
theorem inX1 : ∀ w ∈ wsX10, w ∈ gT := by decide +kernel
theorem iniX1 : Cond.initialized RX1 ∈ gT := gT_mem (List.mem_of_getElem? (i := 3) (by decide +kernel)) rfl
theorem inX2 : ∀ w ∈ wsX20, w ∈ gT := by decide +kernel
theorem iniX2 : Cond.initialized RX2 ∈ gT := gT_mem (List.mem_of_getElem? (i := 6) (by decide +kernel)) rfl
theorem inX3 : ∀ w ∈ wsX30, w ∈ gT := by decide +kernel
theorem iniX3 : Cond.initialized RX3 ∈ gT := gT_mem (List.mem_of_getElem? (i := 2) (by decide +kernel)) rfl
theorem inX4 : ∀ w ∈ wsX40, w ∈ gT := by decide +kernel
theorem iniX4 : Cond.initialized RX4 ∈ gT := gT_mem (List.mem_of_getElem? (i := 7) (by decide +kernel)) rfl
theorem inX5 : ∀ w ∈ wsX50, w ∈ gT := by decide +kernel
theorem iniX5 : Cond.initialized RX5 ∈ gT := gT_mem (List.mem_of_getElem? (i := 5) (by decide +kernel)) rfl
theorem inX6 : ∀ w ∈ wsX60, w ∈ gT := by decide +kernel
theorem iniX6 : Cond.initialized RX6 ∈ gT := gT_mem (List.mem_of_getElem? (i := 1) (by decide +kernel)) rfl
theorem inX7 : ∀ w ∈ wsX70, w ∈ gT := by decide +kernel
theorem iniX7 : Cond.initialized RX7 ∈ gT := gT_mem (List.mem_of_getElem? (i := 24) (by decide +kernel)) rfl
theorem cdX0_init : Cond.code yX0_init cX0_init 3 none ∈ gT := gT_mem (List.mem_of_getElem? (i := 92) (by decide +kernel)) rfl
theorem imX0_init : Cond.instanceMethod yX0_init ∈ gT := gT_mem (List.mem_of_getElem? (i := 91) (by decide +kernel)) rfl
theorem flX0_X0_place : Cond.fieldLink RX0 9 "RootTowers$Elements" "place" "[I" ∈ gT := gT_mem (List.mem_of_getElem? (i := 122) (by decide +kernel)) rfl
theorem flX0_X0_rank : Cond.fieldLink RX0 15 "RootTowers$Elements" "rank" "[I" ∈ gT := gT_mem (List.mem_of_getElem? (i := 124) (by decide +kernel)) rfl
theorem flX0_X0_numbers : Cond.fieldLink RX0 18 "RootTowers$Elements" "numbers" "LRootTowers$Numbers;" ∈ gT := gT_mem (List.mem_of_getElem? (i := 116) (by decide +kernel)) rfl
theorem flX0_X0_field : Cond.fieldLink RX0 22 "RootTowers$Elements" "field" "LRootTowers$Field;" ∈ gT := gT_mem (List.mem_of_getElem? (i := 117) (by decide +kernel)) rfl
theorem klX0_X5 : Cond.classLink RX0 26 RX5 ∈ gT := gT_mem (List.mem_of_getElem? (i := 94) (by decide +kernel)) rfl
theorem istX5 : Cond.instantiable RX5 5 ∈ gT := gT_mem (List.mem_of_getElem? (i := 95) (by decide +kernel)) rfl
theorem mlX0_X5_init : Cond.methodLink RX0 28 yX5_init ∈ gT := gT_mem (List.mem_of_getElem? (i := 96) (by decide +kernel)) rfl
theorem cdX5_init : Cond.code yX5_init cX5_init 3 none ∈ gT := gT_mem (List.mem_of_getElem? (i := 98) (by decide +kernel)) rfl
theorem imX5_init : Cond.instanceMethod yX5_init ∈ gT := gT_mem (List.mem_of_getElem? (i := 97) (by decide +kernel)) rfl
theorem flX0_X0_ready : Cond.fieldLink RX0 31 "RootTowers$Elements" "ready" "LRootTowers$Spans;" ∈ gT := gT_mem (List.mem_of_getElem? (i := 118) (by decide +kernel)) rfl
theorem flX0_X0_fine : Cond.fieldLink RX0 35 "RootTowers$Elements" "fine" "LRootTowers$Spans;" ∈ gT := gT_mem (List.mem_of_getElem? (i := 119) (by decide +kernel)) rfl
theorem cdX0_reset : Cond.code yX0_reset cX0_reset 1 none ∈ gT := gT_mem (List.mem_of_getElem? (i := 233) (by decide +kernel)) rfl
theorem imX0_reset : Cond.instanceMethod yX0_reset ∈ gT := gT_mem (List.mem_of_getElem? (i := 231) (by decide +kernel)) rfl
theorem slX0_reset : Cond.selects RX0 yX0_reset yX0_reset ∈ gT := gT_mem (List.mem_of_getElem? (i := 232) (by decide +kernel)) rfl
theorem flX0_X0_count : Cond.fieldLink RX0 38 "RootTowers$Elements" "count" "I" ∈ gT := gT_mem (List.mem_of_getElem? (i := 120) (by decide +kernel)) rfl
theorem mlX0_X5_begin : Cond.methodLink RX0 42 yX5_begin ∈ gT := gT_mem (List.mem_of_getElem? (i := 234) (by decide +kernel)) rfl
theorem cdX5_begin : Cond.code yX5_begin cX5_begin 2 none ∈ gT := gT_mem (List.mem_of_getElem? (i := 237) (by decide +kernel)) rfl
theorem imX5_begin : Cond.instanceMethod yX5_begin ∈ gT := gT_mem (List.mem_of_getElem? (i := 235) (by decide +kernel)) rfl
theorem slX5_begin : Cond.selects RX5 yX5_begin yX5_begin ∈ gT := gT_mem (List.mem_of_getElem? (i := 236) (by decide +kernel)) rfl
theorem cdX0_has : Cond.code yX0_has cX0_has 2 (some .boolean) ∈ gT := gT_mem (List.mem_of_getElem? (i := 739) (by decide +kernel)) rfl
theorem imX0_has : Cond.instanceMethod yX0_has ∈ gT := gT_mem (List.mem_of_getElem? (i := 737) (by decide +kernel)) rfl
theorem slX0_has : Cond.selects RX0 yX0_has yX0_has ∈ gT := gT_mem (List.mem_of_getElem? (i := 738) (by decide +kernel)) rfl
theorem cdX0_isFull : Cond.code yX0_isFull cX0_isFull 1 (some .boolean) ∈ gT := gT_mem (List.mem_of_getElem? (i := 577) (by decide +kernel)) rfl
theorem imX0_isFull : Cond.instanceMethod yX0_isFull ∈ gT := gT_mem (List.mem_of_getElem? (i := 575) (by decide +kernel)) rfl
theorem slX0_isFull : Cond.selects RX0 yX0_isFull yX0_isFull ∈ gT := gT_mem (List.mem_of_getElem? (i := 576) (by decide +kernel)) rfl
theorem cdX0_adopt : Cond.code yX0_adopt cX0_adopt 5 (some .int) ∈ gT := gT_mem (List.mem_of_getElem? (i := 582) (by decide +kernel)) rfl
theorem imX0_adopt : Cond.instanceMethod yX0_adopt ∈ gT := gT_mem (List.mem_of_getElem? (i := 580) (by decide +kernel)) rfl
theorem slX0_adopt : Cond.selects RX0 yX0_adopt yX0_adopt ∈ gT := gT_mem (List.mem_of_getElem? (i := 581) (by decide +kernel)) rfl
theorem mlX0_X3_next : Cond.methodLink RX0 51 yX3_next ∈ gT := gT_mem (List.mem_of_getElem? (i := 583) (by decide +kernel)) rfl
theorem cdX3_next : Cond.code yX3_next cX3_next 2 (some .int) ∈ gT := gT_mem (List.mem_of_getElem? (i := 586) (by decide +kernel)) rfl
theorem imX3_next : Cond.instanceMethod yX3_next ∈ gT := gT_mem (List.mem_of_getElem? (i := 584) (by decide +kernel)) rfl
theorem slX3_next : Cond.selects RX3 yX3_next yX3_next ∈ gT := gT_mem (List.mem_of_getElem? (i := 585) (by decide +kernel)) rfl
theorem mlX0_X0_isOfLowerLevel : Cond.methodLink RX0 62 yX0_isOfLowerLevel ∈ gT := gT_mem (List.mem_of_getElem? (i := 587) (by decide +kernel)) rfl
theorem cdX0_isOfLowerLevel : Cond.code yX0_isOfLowerLevel cX0_isOfLowerLevel 4 (some .boolean) ∈ gT := gT_mem (List.mem_of_getElem? (i := 590) (by decide +kernel)) rfl
theorem imX0_isOfLowerLevel : Cond.instanceMethod yX0_isOfLowerLevel ∈ gT := gT_mem (List.mem_of_getElem? (i := 589) (by decide +kernel)) rfl
theorem slX0_isOfLowerLevel : Cond.selects RX0 yX0_isOfLowerLevel yX0_isOfLowerLevel ∈ gT := gT_sel (y := yX0_isOfLowerLevel) (n := 7) (by decide +kernel)
theorem mlX0_X3_skip : Cond.methodLink RX0 66 yX3_skip ∈ gT := gT_mem (List.mem_of_getElem? (i := 591) (by decide +kernel)) rfl
theorem cdX3_skip : Cond.code yX3_skip cX3_skip 5 (some .int) ∈ gT := gT_mem (List.mem_of_getElem? (i := 594) (by decide +kernel)) rfl
theorem imX3_skip : Cond.instanceMethod yX3_skip ∈ gT := gT_mem (List.mem_of_getElem? (i := 592) (by decide +kernel)) rfl
theorem slX3_skip : Cond.selects RX3 yX3_skip yX3_skip ∈ gT := gT_mem (List.mem_of_getElem? (i := 593) (by decide +kernel)) rfl
theorem flX0_X3_top : Cond.fieldLink RX0 69 "RootTowers$Numbers" "top" "I" ∈ gT := gT_mem (List.mem_of_getElem? (i := 49) (by decide +kernel)) rfl
theorem mlX0_X1_reduced : Cond.methodLink RX0 72 yX1_reduced ∈ gT := gT_mem (List.mem_of_getElem? (i := 599) (by decide +kernel)) rfl
theorem cdX1_reduced : Cond.code yX1_reduced cX1_reduced 9 (some .int) ∈ gT := gT_mem (List.mem_of_getElem? (i := 602) (by decide +kernel)) rfl
theorem imX1_reduced : Cond.instanceMethod yX1_reduced ∈ gT := gT_mem (List.mem_of_getElem? (i := 600) (by decide +kernel)) rfl
theorem slX1_reduced : Cond.selects RX1 yX1_reduced yX1_reduced ∈ gT := gT_mem (List.mem_of_getElem? (i := 601) (by decide +kernel)) rfl
theorem mlX0_X0_isWide : Cond.methodLink RX0 77 yX0_isWide ∈ gT := gT_mem (List.mem_of_getElem? (i := 696) (by decide +kernel)) rfl
theorem cdX0_isWide : Cond.code yX0_isWide cX0_isWide 7 (some .boolean) ∈ gT := gT_mem (List.mem_of_getElem? (i := 699) (by decide +kernel)) rfl
theorem imX0_isWide : Cond.instanceMethod yX0_isWide ∈ gT := gT_mem (List.mem_of_getElem? (i := 698) (by decide +kernel)) rfl
theorem slX0_isWide : Cond.selects RX0 yX0_isWide yX0_isWide ∈ gT := gT_sel (y := yX0_isWide) (n := 7) (by decide +kernel)
theorem mlX0_X3_rest : Cond.methodLink RX0 80 yX3_rest ∈ gT := gT_mem (List.mem_of_getElem? (i := 726) (by decide +kernel)) rfl
theorem cdX3_rest : Cond.code yX3_rest cX3_rest 1 none ∈ gT := gT_mem (List.mem_of_getElem? (i := 729) (by decide +kernel)) rfl
theorem imX3_rest : Cond.instanceMethod yX3_rest ∈ gT := gT_mem (List.mem_of_getElem? (i := 727) (by decide +kernel)) rfl
theorem slX3_rest : Cond.selects RX3 yX3_rest yX3_rest ∈ gT := gT_mem (List.mem_of_getElem? (i := 728) (by decide +kernel)) rfl
theorem flX0_X3_firm : Cond.fieldLink RX0 83 "RootTowers$Numbers" "firm" "I" ∈ gT := gT_mem (List.mem_of_getElem? (i := 52) (by decide +kernel)) rfl
theorem mlX0_X3_slid : Cond.methodLink RX0 86 yX3_slid ∈ gT := gT_mem (List.mem_of_getElem? (i := 730) (by decide +kernel)) rfl
theorem cdX3_slid : Cond.code yX3_slid cX3_slid 4 (some .int) ∈ gT := gT_mem (List.mem_of_getElem? (i := 680) (by decide +kernel)) rfl
theorem imX3_slid : Cond.instanceMethod yX3_slid ∈ gT := gT_mem (List.mem_of_getElem? (i := 678) (by decide +kernel)) rfl
theorem slX3_slid : Cond.selects RX3 yX3_slid yX3_slid ∈ gT := gT_mem (List.mem_of_getElem? (i := 679) (by decide +kernel)) rfl
theorem mlX0_X3_settle : Cond.methodLink RX0 89 yX3_settle ∈ gT := gT_mem (List.mem_of_getElem? (i := 731) (by decide +kernel)) rfl
theorem cdX3_settle : Cond.code yX3_settle cX3_settle 1 none ∈ gT := gT_mem (List.mem_of_getElem? (i := 553) (by decide +kernel)) rfl
theorem imX3_settle : Cond.instanceMethod yX3_settle ∈ gT := gT_mem (List.mem_of_getElem? (i := 551) (by decide +kernel)) rfl
theorem slX3_settle : Cond.selects RX3 yX3_settle yX3_settle ∈ gT := gT_mem (List.mem_of_getElem? (i := 552) (by decide +kernel)) rfl
theorem mlX0_X1_part : Cond.methodLink RX0 95 yX1_part ∈ gT := gT_mem (List.mem_of_getElem? (i := 700) (by decide +kernel)) rfl
theorem cdX1_part : Cond.code yX1_part cX1_part 6 (some .int) ∈ gT := gT_mem (List.mem_of_getElem? (i := 703) (by decide +kernel)) rfl
theorem imX1_part : Cond.instanceMethod yX1_part ∈ gT := gT_mem (List.mem_of_getElem? (i := 701) (by decide +kernel)) rfl
theorem slX1_part : Cond.selects RX1 yX1_part yX1_part ∈ gT := gT_mem (List.mem_of_getElem? (i := 702) (by decide +kernel)) rfl
theorem mlX0_X3_isWider : Cond.methodLink RX0 99 yX3_isWider ∈ gT := gT_mem (List.mem_of_getElem? (i := 718) (by decide +kernel)) rfl
theorem cdX3_isWider : Cond.code yX3_isWider cX3_isWider 3 (some .boolean) ∈ gT := gT_mem (List.mem_of_getElem? (i := 721) (by decide +kernel)) rfl
theorem imX3_isWider : Cond.instanceMethod yX3_isWider ∈ gT := gT_mem (List.mem_of_getElem? (i := 719) (by decide +kernel)) rfl
theorem slX3_isWider : Cond.selects RX3 yX3_isWider yX3_isWider ∈ gT := gT_mem (List.mem_of_getElem? (i := 720) (by decide +kernel)) rfl
theorem cdX1_init : Cond.code yX1_init cX1_init 2 none ∈ gT := gT_mem (List.mem_of_getElem? (i := 69) (by decide +kernel)) rfl
theorem imX1_init : Cond.instanceMethod yX1_init ∈ gT := gT_mem (List.mem_of_getElem? (i := 68) (by decide +kernel)) rfl
theorem flX1_X1_square : Cond.fieldLink RX1 9 "RootTowers$Field" "square" "[I" ∈ gT := gT_mem (List.mem_of_getElem? (i := 75) (by decide +kernel)) rfl
theorem flX1_X1_scale : Cond.fieldLink RX1 15 "RootTowers$Field" "scale" "[I" ∈ gT := gT_mem (List.mem_of_getElem? (i := 78) (by decide +kernel)) rfl
theorem flX1_X1_numbers : Cond.fieldLink RX1 18 "RootTowers$Field" "numbers" "LRootTowers$Numbers;" ∈ gT := gT_mem (List.mem_of_getElem? (i := 71) (by decide +kernel)) rfl
theorem cdX1_reset : Cond.code yX1_reset cX1_reset 1 none ∈ gT := gT_mem (List.mem_of_getElem? (i := 229) (by decide +kernel)) rfl
theorem imX1_reset : Cond.instanceMethod yX1_reset ∈ gT := gT_mem (List.mem_of_getElem? (i := 227) (by decide +kernel)) rfl
theorem slX1_reset : Cond.selects RX1 yX1_reset yX1_reset ∈ gT := gT_mem (List.mem_of_getElem? (i := 228) (by decide +kernel)) rfl
theorem flX1_X1_height : Cond.fieldLink RX1 22 "RootTowers$Field" "height" "I" ∈ gT := gT_mem (List.mem_of_getElem? (i := 72) (by decide +kernel)) rfl
theorem flX1_X3_top : Cond.fieldLink RX1 44 "RootTowers$Numbers" "top" "I" ∈ gT := gT_mem (List.mem_of_getElem? (i := 48) (by decide +kernel)) rfl
theorem mlX1_X3_times : Cond.methodLink RX1 40 yX3_times ∈ gT := gT_mem (List.mem_of_getElem? (i := 704) (by decide +kernel)) rfl
theorem cdX3_times : Cond.code yX3_times cX3_times 15 (some .int) ∈ gT := gT_mem (List.mem_of_getElem? (i := 707) (by decide +kernel)) rfl
theorem imX3_times : Cond.instanceMethod yX3_times ∈ gT := gT_mem (List.mem_of_getElem? (i := 705) (by decide +kernel)) rfl
theorem slX3_times : Cond.selects RX3 yX3_times yX3_times ∈ gT := gT_mem (List.mem_of_getElem? (i := 706) (by decide +kernel)) rfl
theorem mlX1_X3_lowest : Cond.methodLink RX1 56 yX3_lowest ∈ gT := gT_mem (List.mem_of_getElem? (i := 711) (by decide +kernel)) rfl
theorem cdX3_lowest : Cond.code yX3_lowest cX3_lowest 7 (some .int) ∈ gT := gT_mem (List.mem_of_getElem? (i := 714) (by decide +kernel)) rfl
theorem imX3_lowest : Cond.instanceMethod yX3_lowest ∈ gT := gT_mem (List.mem_of_getElem? (i := 712) (by decide +kernel)) rfl
theorem slX3_lowest : Cond.selects RX3 yX3_lowest yX3_lowest ∈ gT := gT_mem (List.mem_of_getElem? (i := 713) (by decide +kernel)) rfl
theorem mlX1_X3_slid : Cond.methodLink RX1 53 yX3_slid ∈ gT := gT_mem (List.mem_of_getElem? (i := 681) (by decide +kernel)) rfl
theorem mlX1_X3_copied : Cond.methodLink RX1 59 yX3_copied ∈ gT := gT_mem (List.mem_of_getElem? (i := 603) (by decide +kernel)) rfl
theorem cdX3_copied : Cond.code yX3_copied cX3_copied 5 (some .int) ∈ gT := gT_mem (List.mem_of_getElem? (i := 606) (by decide +kernel)) rfl
theorem imX3_copied : Cond.instanceMethod yX3_copied ∈ gT := gT_mem (List.mem_of_getElem? (i := 604) (by decide +kernel)) rfl
theorem slX3_copied : Cond.selects RX3 yX3_copied yX3_copied ∈ gT := gT_mem (List.mem_of_getElem? (i := 605) (by decide +kernel)) rfl
theorem mlX1_X3_next : Cond.methodLink RX1 28 yX3_next ∈ gT := gT_mem (List.mem_of_getElem? (i := 608) (by decide +kernel)) rfl
theorem mlX1_X1_isOne : Cond.methodLink RX1 92 yX1_isOne ∈ gT := gT_mem (List.mem_of_getElem? (i := 609) (by decide +kernel)) rfl
theorem cdX1_isOne : Cond.code yX1_isOne cX1_isOne 2 (some .boolean) ∈ gT := gT_mem (List.mem_of_getElem? (i := 612) (by decide +kernel)) rfl
theorem imX1_isOne : Cond.instanceMethod yX1_isOne ∈ gT := gT_mem (List.mem_of_getElem? (i := 611) (by decide +kernel)) rfl
theorem slX1_isOne : Cond.selects RX1 yX1_isOne yX1_isOne ∈ gT := gT_sel (y := yX1_isOne) (n := 4) (by decide +kernel)
theorem flX1_X3_cell : Cond.fieldLink RX1 96 "RootTowers$Numbers" "cell" "[I" ∈ gT := gT_mem (List.mem_of_getElem? (i := 44) (by decide +kernel)) rfl
theorem mlX1_X3_divisor : Cond.methodLink RX1 99 yX3_divisor ∈ gT := gT_mem (List.mem_of_getElem? (i := 613) (by decide +kernel)) rfl
theorem cdX3_divisor : Cond.code yX3_divisor cX3_divisor 12 (some .int) ∈ gT := gT_mem (List.mem_of_getElem? (i := 616) (by decide +kernel)) rfl
theorem imX3_divisor : Cond.instanceMethod yX3_divisor ∈ gT := gT_mem (List.mem_of_getElem? (i := 614) (by decide +kernel)) rfl
theorem slX3_divisor : Cond.selects RX3 yX3_divisor yX3_divisor ∈ gT := gT_mem (List.mem_of_getElem? (i := 615) (by decide +kernel)) rfl
theorem mlX1_X3_isBelow : Cond.methodLink RX1 102 yX3_isBelow ∈ gT := gT_mem (List.mem_of_getElem? (i := 682) (by decide +kernel)) rfl
theorem cdX3_isBelow : Cond.code yX3_isBelow cX3_isBelow 2 (some .boolean) ∈ gT := gT_mem (List.mem_of_getElem? (i := 549) (by decide +kernel)) rfl
theorem imX3_isBelow : Cond.instanceMethod yX3_isBelow ∈ gT := gT_mem (List.mem_of_getElem? (i := 547) (by decide +kernel)) rfl
theorem slX3_isBelow : Cond.selects RX3 yX3_isBelow yX3_isBelow ∈ gT := gT_mem (List.mem_of_getElem? (i := 548) (by decide +kernel)) rfl
theorem mlX1_X3_turn : Cond.methodLink RX1 86 yX3_turn ∈ gT := gT_mem (List.mem_of_getElem? (i := 683) (by decide +kernel)) rfl
theorem cdX3_turn : Cond.code yX3_turn cX3_turn 4 none ∈ gT := gT_mem (List.mem_of_getElem? (i := 686) (by decide +kernel)) rfl
theorem imX3_turn : Cond.instanceMethod yX3_turn ∈ gT := gT_mem (List.mem_of_getElem? (i := 684) (by decide +kernel)) rfl
theorem slX3_turn : Cond.selects RX3 yX3_turn yX3_turn ∈ gT := gT_mem (List.mem_of_getElem? (i := 685) (by decide +kernel)) rfl
theorem mlX1_X3_divided : Cond.methodLink RX1 105 yX3_divided ∈ gT := gT_mem (List.mem_of_getElem? (i := 687) (by decide +kernel)) rfl
theorem cdX3_divided : Cond.code yX3_divided cX3_divided 4 (some .int) ∈ gT := gT_mem (List.mem_of_getElem? (i := 690) (by decide +kernel)) rfl
theorem imX3_divided : Cond.instanceMethod yX3_divided ∈ gT := gT_mem (List.mem_of_getElem? (i := 688) (by decide +kernel)) rfl
theorem slX3_divided : Cond.selects RX3 yX3_divided yX3_divided ∈ gT := gT_mem (List.mem_of_getElem? (i := 689) (by decide +kernel)) rfl
theorem cdX2_init : Cond.code yX2_init cX2_init 3 none ∈ gT := gT_mem (List.mem_of_getElem? (i := 145) (by decide +kernel)) rfl
theorem imX2_init : Cond.instanceMethod yX2_init ∈ gT := gT_mem (List.mem_of_getElem? (i := 144) (by decide +kernel)) rfl
theorem flX2_X2_low : Cond.fieldLink RX2 9 "RootTowers$Least" "low" "[I" ∈ gT := gT_mem (List.mem_of_getElem? (i := 152) (by decide +kernel)) rfl
theorem flX2_X2_high : Cond.fieldLink RX2 15 "RootTowers$Least" "high" "[I" ∈ gT := gT_mem (List.mem_of_getElem? (i := 153) (by decide +kernel)) rfl
theorem flX2_X2_numbers : Cond.fieldLink RX2 18 "RootTowers$Least" "numbers" "LRootTowers$Numbers;" ∈ gT := gT_mem (List.mem_of_getElem? (i := 147) (by decide +kernel)) rfl
theorem flX2_X2_field : Cond.fieldLink RX2 22 "RootTowers$Least" "field" "LRootTowers$Field;" ∈ gT := gT_mem (List.mem_of_getElem? (i := 148) (by decide +kernel)) rfl
theorem cdX3_init : Cond.code yX3_init cX3_init 1 none ∈ gT := gT_mem (List.mem_of_getElem? (i := 39) (by decide +kernel)) rfl
theorem imX3_init : Cond.instanceMethod yX3_init ∈ gT := gT_mem (List.mem_of_getElem? (i := 38) (by decide +kernel)) rfl
theorem flX3_X3_cell : Cond.fieldLink RX3 11 "RootTowers$Numbers" "cell" "[I" ∈ gT := gT_mem (List.mem_of_getElem? (i := 41) (by decide +kernel)) rfl
theorem cdX3_reset : Cond.code yX3_reset cX3_reset 1 none ∈ gT := gT_mem (List.mem_of_getElem? (i := 193) (by decide +kernel)) rfl
theorem imX3_reset : Cond.instanceMethod yX3_reset ∈ gT := gT_mem (List.mem_of_getElem? (i := 191) (by decide +kernel)) rfl
theorem slX3_reset : Cond.selects RX3 yX3_reset yX3_reset ∈ gT := gT_mem (List.mem_of_getElem? (i := 192) (by decide +kernel)) rfl
theorem flX3_X3_top : Cond.fieldLink RX3 15 "RootTowers$Numbers" "top" "I" ∈ gT := gT_mem (List.mem_of_getElem? (i := 45) (by decide +kernel)) rfl
theorem mlX3_X3_whole : Cond.methodLink RX3 19 yX3_whole ∈ gT := gT_mem (List.mem_of_getElem? (i := 194) (by decide +kernel)) rfl
theorem cdX3_whole : Cond.code yX3_whole cX3_whole 9 (some .int) ∈ gT := gT_mem (List.mem_of_getElem? (i := 197) (by decide +kernel)) rfl
theorem imX3_whole : Cond.instanceMethod yX3_whole ∈ gT := gT_mem (List.mem_of_getElem? (i := 195) (by decide +kernel)) rfl
theorem slX3_whole : Cond.selects RX3 yX3_whole yX3_whole ∈ gT := gT_mem (List.mem_of_getElem? (i := 196) (by decide +kernel)) rfl
theorem flX3_X3_firm : Cond.fieldLink RX3 23 "RootTowers$Numbers" "firm" "I" ∈ gT := gT_mem (List.mem_of_getElem? (i := 51) (by decide +kernel)) rfl
theorem flX3_X3_kept : Cond.fieldLink RX3 26 "RootTowers$Numbers" "kept" "I" ∈ gT := gT_mem (List.mem_of_getElem? (i := 54) (by decide +kernel)) rfl
theorem cdX3_room : Cond.code yX3_room cX3_room 3 none ∈ gT := gT_mem (List.mem_of_getElem? (i := 201) (by decide +kernel)) rfl
theorem imX3_room : Cond.instanceMethod yX3_room ∈ gT := gT_mem (List.mem_of_getElem? (i := 199) (by decide +kernel)) rfl
theorem slX3_room : Cond.selects RX3 yX3_room yX3_room ∈ gT := gT_mem (List.mem_of_getElem? (i := 200) (by decide +kernel)) rfl
theorem cdX3_signAt : Cond.code yX3_signAt cX3_signAt 2 (some .int) ∈ gT := gT_mem (List.mem_of_getElem? (i := 818) (by decide +kernel)) rfl
theorem imX3_signAt : Cond.instanceMethod yX3_signAt ∈ gT := gT_mem (List.mem_of_getElem? (i := 816) (by decide +kernel)) rfl
theorem slX3_signAt : Cond.selects RX3 yX3_signAt yX3_signAt ∈ gT := gT_mem (List.mem_of_getElem? (i := 817) (by decide +kernel)) rfl
theorem cdX3_closed : Cond.code yX3_closed cX3_closed 5 (some .int) ∈ gT := gT_mem (List.mem_of_getElem? (i := 225) (by decide +kernel)) rfl
theorem imX3_closed : Cond.instanceMethod yX3_closed ∈ gT := gT_mem (List.mem_of_getElem? (i := 223) (by decide +kernel)) rfl
theorem slX3_closed : Cond.selects RX3 yX3_closed yX3_closed ∈ gT := gT_mem (List.mem_of_getElem? (i := 224) (by decide +kernel)) rfl
theorem mlX3_X3_room : Cond.methodLink RX3 41 yX3_room ∈ gT := gT_mem (List.mem_of_getElem? (i := 198) (by decide +kernel)) rfl
theorem clX3_1000000000 : Cond.constantLong RX3 45 (1000000000) ∈ gT := gT_mem (List.mem_of_getElem? (i := 221) (by decide +kernel)) rfl
theorem mlX3_X3_closed : Cond.methodLink RX3 47 yX3_closed ∈ gT := gT_mem (List.mem_of_getElem? (i := 222) (by decide +kernel)) rfl
theorem cdX3_noughts : Cond.code yX3_noughts cX3_noughts 2 none ∈ gT := gT_mem (List.mem_of_getElem? (i := 694) (by decide +kernel)) rfl
theorem imX3_noughts : Cond.instanceMethod yX3_noughts ∈ gT := gT_mem (List.mem_of_getElem? (i := 692) (by decide +kernel)) rfl
theorem slX3_noughts : Cond.selects RX3 yX3_noughts yX3_noughts ∈ gT := gT_mem (List.mem_of_getElem? (i := 693) (by decide +kernel)) rfl
theorem mlX3_X3_skip : Cond.methodLink RX3 55 yX3_skip ∈ gT := gT_mem (List.mem_of_getElem? (i := 607) (by decide +kernel)) rfl
theorem cdX3_sizeOrder : Cond.code yX3_sizeOrder cX3_sizeOrder 7 (some .int) ∈ gT := gT_mem (List.mem_of_getElem? (i := 620) (by decide +kernel)) rfl
theorem imX3_sizeOrder : Cond.instanceMethod yX3_sizeOrder ∈ gT := gT_mem (List.mem_of_getElem? (i := 618) (by decide +kernel)) rfl
theorem slX3_sizeOrder : Cond.selects RX3 yX3_sizeOrder yX3_sizeOrder ∈ gT := gT_mem (List.mem_of_getElem? (i := 619) (by decide +kernel)) rfl
theorem cdX3_areSame : Cond.code yX3_areSame cX3_areSame 3 (some .boolean) ∈ gT := gT_mem (List.mem_of_getElem? (i := 877) (by decide +kernel)) rfl
theorem imX3_areSame : Cond.instanceMethod yX3_areSame ∈ gT := gT_mem (List.mem_of_getElem? (i := 875) (by decide +kernel)) rfl
theorem slX3_areSame : Cond.selects RX3 yX3_areSame yX3_areSame ∈ gT := gT_mem (List.mem_of_getElem? (i := 876) (by decide +kernel)) rfl
theorem mlX3_X3_sizeOrder : Cond.methodLink RX3 64 yX3_sizeOrder ∈ gT := gT_mem (List.mem_of_getElem? (i := 617) (by decide +kernel)) rfl
theorem clX3_8000000000000000000 : Cond.constantLong RX3 75 (8000000000000000000) ∈ gT := gT_mem (List.mem_of_getElem? (i := 709) (by decide +kernel)) rfl
theorem clX3_8000000000 : Cond.constantLong RX3 77 (8000000000) ∈ gT := gT_mem (List.mem_of_getElem? (i := 710) (by decide +kernel)) rfl
theorem cdX3_raised : Cond.code yX3_raised cX3_raised 5 (some .int) ∈ gT := gT_mem (List.mem_of_getElem? (i := 241) (by decide +kernel)) rfl
theorem imX3_raised : Cond.instanceMethod yX3_raised ∈ gT := gT_mem (List.mem_of_getElem? (i := 239) (by decide +kernel)) rfl
theorem slX3_raised : Cond.selects RX3 yX3_raised yX3_raised ∈ gT := gT_mem (List.mem_of_getElem? (i := 240) (by decide +kernel)) rfl
theorem mlX3_X3_isBelow : Cond.methodLink RX3 67 yX3_isBelow ∈ gT := gT_mem (List.mem_of_getElem? (i := 546) (by decide +kernel)) rfl
theorem mlX3_X3_noughts : Cond.methodLink RX3 80 yX3_noughts ∈ gT := gT_mem (List.mem_of_getElem? (i := 691) (by decide +kernel)) rfl
theorem mlX3_X3_copied : Cond.methodLink RX3 83 yX3_copied ∈ gT := gT_mem (List.mem_of_getElem? (i := 695) (by decide +kernel)) rfl
theorem mlX3_X3_dividedByLimb : Cond.methodLink RX3 86 yX3_dividedByLimb ∈ gT := gT_mem (List.mem_of_getElem? (i := 651) (by decide +kernel)) rfl
theorem cdX3_dividedByLimb : Cond.code yX3_dividedByLimb cX3_dividedByLimb 14 (some .int) ∈ gT := gT_mem (List.mem_of_getElem? (i := 654) (by decide +kernel)) rfl
theorem imX3_dividedByLimb : Cond.instanceMethod yX3_dividedByLimb ∈ gT := gT_mem (List.mem_of_getElem? (i := 653) (by decide +kernel)) rfl
theorem slX3_dividedByLimb : Cond.selects RX3 yX3_dividedByLimb yX3_dividedByLimb ∈ gT := gT_sel (y := yX3_dividedByLimb) (n := 4) (by decide +kernel)
theorem mlX3_X3_dividedByLimbs : Cond.methodLink RX3 89 yX3_dividedByLimbs ∈ gT := gT_mem (List.mem_of_getElem? (i := 655) (by decide +kernel)) rfl
theorem cdX3_dividedByLimbs : Cond.code yX3_dividedByLimbs cX3_dividedByLimbs 14 (some .int) ∈ gT := gT_mem (List.mem_of_getElem? (i := 658) (by decide +kernel)) rfl
theorem imX3_dividedByLimbs : Cond.instanceMethod yX3_dividedByLimbs ∈ gT := gT_mem (List.mem_of_getElem? (i := 657) (by decide +kernel)) rfl
theorem slX3_dividedByLimbs : Cond.selects RX3 yX3_dividedByLimbs yX3_dividedByLimbs ∈ gT := gT_sel (y := yX3_dividedByLimbs) (n := 4) (by decide +kernel)
theorem coX3_1000000000 : Cond.constant RX3 71 (1000000000) ∈ gT := gT_mem (List.mem_of_getElem? (i := 659) (by decide +kernel)) rfl
theorem mlX3_X3_multiply : Cond.methodLink RX3 92 yX3_multiply ∈ gT := gT_mem (List.mem_of_getElem? (i := 660) (by decide +kernel)) rfl
theorem cdX3_multiply : Cond.code yX3_multiply cX3_multiply 10 none ∈ gT := gT_mem (List.mem_of_getElem? (i := 663) (by decide +kernel)) rfl
theorem imX3_multiply : Cond.instanceMethod yX3_multiply ∈ gT := gT_mem (List.mem_of_getElem? (i := 662) (by decide +kernel)) rfl
theorem slX3_multiply : Cond.selects RX3 yX3_multiply yX3_multiply ∈ gT := gT_sel (y := yX3_multiply) (n := 4) (by decide +kernel)
theorem mlX3_X3_quotientLimb : Cond.methodLink RX3 96 yX3_quotientLimb ∈ gT := gT_mem (List.mem_of_getElem? (i := 664) (by decide +kernel)) rfl
theorem cdX3_quotientLimb : Cond.code yX3_quotientLimb cX3_quotientLimb 19 (some .int) ∈ gT := gT_mem (List.mem_of_getElem? (i := 667) (by decide +kernel)) rfl
theorem imX3_quotientLimb : Cond.instanceMethod yX3_quotientLimb ∈ gT := gT_mem (List.mem_of_getElem? (i := 666) (by decide +kernel)) rfl
theorem slX3_quotientLimb : Cond.selects RX3 yX3_quotientLimb yX3_quotientLimb ∈ gT := gT_sel (y := yX3_quotientLimb) (n := 4) (by decide +kernel)
theorem mlX3_X3_place : Cond.methodLink RX3 113 yX3_place ∈ gT := gT_mem (List.mem_of_getElem? (i := 621) (by decide +kernel)) rfl
theorem cdX3_place : Cond.code yX3_place cX3_place 4 none ∈ gT := gT_mem (List.mem_of_getElem? (i := 624) (by decide +kernel)) rfl
theorem imX3_place : Cond.instanceMethod yX3_place ∈ gT := gT_mem (List.mem_of_getElem? (i := 623) (by decide +kernel)) rfl
theorem slX3_place : Cond.selects RX3 yX3_place yX3_place ∈ gT := gT_sel (y := yX3_place) (n := 4) (by decide +kernel)
theorem mlX3_X3_leaped : Cond.methodLink RX3 117 yX3_leaped ∈ gT := gT_mem (List.mem_of_getElem? (i := 625) (by decide +kernel)) rfl
theorem cdX3_leaped : Cond.code yX3_leaped cX3_leaped 27 (some .boolean) ∈ gT := gT_mem (List.mem_of_getElem? (i := 628) (by decide +kernel)) rfl
theorem imX3_leaped : Cond.instanceMethod yX3_leaped ∈ gT := gT_mem (List.mem_of_getElem? (i := 627) (by decide +kernel)) rfl
theorem slX3_leaped : Cond.selects RX3 yX3_leaped yX3_leaped ∈ gT := gT_sel (y := yX3_leaped) (n := 4) (by decide +kernel)
theorem mlX3_X3_next : Cond.methodLink RX3 103 yX3_next ∈ gT := gT_mem (List.mem_of_getElem? (i := 668) (by decide +kernel)) rfl
theorem mlX3_X3_smallDivisor : Cond.methodLink RX3 121 yX3_smallDivisor ∈ gT := gT_mem (List.mem_of_getElem? (i := 669) (by decide +kernel)) rfl
theorem cdX3_smallDivisor : Cond.code yX3_smallDivisor cX3_smallDivisor 10 none ∈ gT := gT_mem (List.mem_of_getElem? (i := 672) (by decide +kernel)) rfl
theorem imX3_smallDivisor : Cond.instanceMethod yX3_smallDivisor ∈ gT := gT_mem (List.mem_of_getElem? (i := 671) (by decide +kernel)) rfl
theorem slX3_smallDivisor : Cond.selects RX3 yX3_smallDivisor yX3_smallDivisor ∈ gT := gT_sel (y := yX3_smallDivisor) (n := 4) (by decide +kernel)
theorem mlX3_X3_slid : Cond.methodLink RX3 110 yX3_slid ∈ gT := gT_mem (List.mem_of_getElem? (i := 677) (by decide +kernel)) rfl
theorem mlX3_X3_value : Cond.methodLink RX3 124 yX3_value ∈ gT := gT_mem (List.mem_of_getElem? (i := 673) (by decide +kernel)) rfl
theorem cdX3_value : Cond.code yX3_value cX3_value 5 (some .long) ∈ gT := gT_mem (List.mem_of_getElem? (i := 676) (by decide +kernel)) rfl
theorem imX3_value : Cond.instanceMethod yX3_value ∈ gT := gT_mem (List.mem_of_getElem? (i := 675) (by decide +kernel)) rfl
theorem slX3_value : Cond.selects RX3 yX3_value yX3_value ∈ gT := gT_sel (y := yX3_value) (n := 4) (by decide +kernel)
theorem mlX3_X3_limbFigures : Cond.methodLink RX3 128 yX3_limbFigures ∈ gT := gT_mem (List.mem_of_getElem? (i := 629) (by decide +kernel)) rfl
theorem cdX3_limbFigures : Cond.code yX3_limbFigures cX3_limbFigures 2 (some .int) ∈ gT := gT_mem (List.mem_of_getElem? (i := 631) (by decide +kernel)) rfl
theorem stX3_limbFigures : Cond.static yX3_limbFigures ∈ gT := gT_mem (List.mem_of_getElem? (i := 630) (by decide +kernel)) rfl
theorem mlX3_X3_highFigures : Cond.methodLink RX3 131 yX3_highFigures ∈ gT := gT_mem (List.mem_of_getElem? (i := 634) (by decide +kernel)) rfl
theorem cdX3_highFigures : Cond.code yX3_highFigures cX3_highFigures 6 (some .long) ∈ gT := gT_mem (List.mem_of_getElem? (i := 637) (by decide +kernel)) rfl
theorem imX3_highFigures : Cond.instanceMethod yX3_highFigures ∈ gT := gT_mem (List.mem_of_getElem? (i := 636) (by decide +kernel)) rfl
theorem slX3_highFigures : Cond.selects RX3 yX3_highFigures yX3_highFigures ∈ gT := gT_sel (y := yX3_highFigures) (n := 4) (by decide +kernel)
theorem mlX3_X3_shorten : Cond.methodLink RX3 146 yX3_shorten ∈ gT := gT_mem (List.mem_of_getElem? (i := 647) (by decide +kernel)) rfl
theorem cdX3_shorten : Cond.code yX3_shorten cX3_shorten 4 none ∈ gT := gT_mem (List.mem_of_getElem? (i := 650) (by decide +kernel)) rfl
theorem imX3_shorten : Cond.instanceMethod yX3_shorten ∈ gT := gT_mem (List.mem_of_getElem? (i := 649) (by decide +kernel)) rfl
theorem slX3_shorten : Cond.selects RX3 yX3_shorten yX3_shorten ∈ gT := gT_sel (y := yX3_shorten) (n := 4) (by decide +kernel)
theorem mlX3_X3_divisor : Cond.methodLink RX3 179 yX3_divisor ∈ gT := gT_mem (List.mem_of_getElem? (i := 715) (by decide +kernel)) rfl
theorem mlX3_X3_divided : Cond.methodLink RX3 100 yX3_divided ∈ gT := gT_mem (List.mem_of_getElem? (i := 716) (by decide +kernel)) rfl
theorem mlX3_X3_turn : Cond.methodLink RX3 182 yX3_turn ∈ gT := gT_mem (List.mem_of_getElem? (i := 717) (by decide +kernel)) rfl
theorem cdX3_figures : Cond.code yX3_figures cX3_figures 3 (some .int) ∈ gT := gT_mem (List.mem_of_getElem? (i := 725) (by decide +kernel)) rfl
theorem imX3_figures : Cond.instanceMethod yX3_figures ∈ gT := gT_mem (List.mem_of_getElem? (i := 723) (by decide +kernel)) rfl
theorem slX3_figures : Cond.selects RX3 yX3_figures yX3_figures ∈ gT := gT_mem (List.mem_of_getElem? (i := 724) (by decide +kernel)) rfl
theorem cdX3_figureAt : Cond.code yX3_figureAt cX3_figureAt 5 (some .int) ∈ gT := gT_mem (List.mem_of_getElem? (i := 1052) (by decide +kernel)) rfl
theorem imX3_figureAt : Cond.instanceMethod yX3_figureAt ∈ gT := gT_mem (List.mem_of_getElem? (i := 1050) (by decide +kernel)) rfl
theorem slX3_figureAt : Cond.selects RX3 yX3_figureAt yX3_figureAt ∈ gT := gT_mem (List.mem_of_getElem? (i := 1051) (by decide +kernel)) rfl
theorem mlX3_X3_figures : Cond.methodLink RX3 185 yX3_figures ∈ gT := gT_mem (List.mem_of_getElem? (i := 722) (by decide +kernel)) rfl
theorem cdX4_init : Cond.code yX4_init cX4_init 2 none ∈ gT := gT_mem (List.mem_of_getElem? (i := 171) (by decide +kernel)) rfl
theorem imX4_init : Cond.instanceMethod yX4_init ∈ gT := gT_mem (List.mem_of_getElem? (i := 170) (by decide +kernel)) rfl
theorem flX4_X4_letters : Cond.fieldLink RX4 11 "RootTowers$Script" "letters" "[B" ∈ gT := gT_mem (List.mem_of_getElem? (i := 174) (by decide +kernel)) rfl
theorem flX4_X4_numbers : Cond.fieldLink RX4 15 "RootTowers$Script" "numbers" "LRootTowers$Numbers;" ∈ gT := gT_mem (List.mem_of_getElem? (i := 173) (by decide +kernel)) rfl
theorem flX5_X5_low : Cond.fieldLink RX5 9 "RootTowers$Spans" "low" "[I" ∈ gT := gT_mem (List.mem_of_getElem? (i := 102) (by decide +kernel)) rfl
theorem flX5_X5_high : Cond.fieldLink RX5 15 "RootTowers$Spans" "high" "[I" ∈ gT := gT_mem (List.mem_of_getElem? (i := 103) (by decide +kernel)) rfl
theorem flX5_X5_numbers : Cond.fieldLink RX5 18 "RootTowers$Spans" "numbers" "LRootTowers$Numbers;" ∈ gT := gT_mem (List.mem_of_getElem? (i := 100) (by decide +kernel)) rfl
theorem flX5_X5_field : Cond.fieldLink RX5 22 "RootTowers$Spans" "field" "LRootTowers$Field;" ∈ gT := gT_mem (List.mem_of_getElem? (i := 101) (by decide +kernel)) rfl
theorem flX5_X5_places : Cond.fieldLink RX5 26 "RootTowers$Spans" "places" "I" ∈ gT := gT_mem (List.mem_of_getElem? (i := 104) (by decide +kernel)) rfl
theorem mlX5_X3_raised : Cond.methodLink RX5 32 yX3_raised ∈ gT := gT_mem (List.mem_of_getElem? (i := 238) (by decide +kernel)) rfl
theorem cdX6_init : Cond.code yX6_init cX6_init 1 none ∈ gT := gT_mem (List.mem_of_getElem? (i := 31) (by decide +kernel)) rfl
theorem imX6_init : Cond.instanceMethod yX6_init ∈ gT := gT_mem (List.mem_of_getElem? (i := 30) (by decide +kernel)) rfl
theorem klX6_X3 : Cond.classLink RX6 7 RX3 ∈ gT := gT_mem (List.mem_of_getElem? (i := 35) (by decide +kernel)) rfl
theorem istX3 : Cond.instantiable RX3 4 ∈ gT := gT_mem (List.mem_of_getElem? (i := 36) (by decide +kernel)) rfl
theorem mlX6_X3_init : Cond.methodLink RX6 9 yX3_init ∈ gT := gT_mem (List.mem_of_getElem? (i := 37) (by decide +kernel)) rfl
theorem flX6_X6_numbers : Cond.fieldLink RX6 10 "RootTowers" "numbers" "LRootTowers$Numbers;" ∈ gT := gT_mem (List.mem_of_getElem? (i := 554) (by decide +kernel)) rfl
theorem klX6_X1 : Cond.classLink RX6 16 RX1 ∈ gT := gT_mem (List.mem_of_getElem? (i := 65) (by decide +kernel)) rfl
theorem istX1 : Cond.instantiable RX1 4 ∈ gT := gT_mem (List.mem_of_getElem? (i := 66) (by decide +kernel)) rfl
theorem mlX6_X1_init : Cond.methodLink RX6 18 yX1_init ∈ gT := gT_mem (List.mem_of_getElem? (i := 67) (by decide +kernel)) rfl
theorem flX6_X6_field : Cond.fieldLink RX6 21 "RootTowers" "field" "LRootTowers$Field;" ∈ gT := gT_mem (List.mem_of_getElem? (i := 555) (by decide +kernel)) rfl
theorem klX6_X0 : Cond.classLink RX6 25 RX0 ∈ gT := gT_mem (List.mem_of_getElem? (i := 88) (by decide +kernel)) rfl
theorem istX0 : Cond.instantiable RX0 7 ∈ gT := gT_mem (List.mem_of_getElem? (i := 89) (by decide +kernel)) rfl
theorem mlX6_X0_init : Cond.methodLink RX6 27 yX0_init ∈ gT := gT_mem (List.mem_of_getElem? (i := 90) (by decide +kernel)) rfl
theorem flX6_X6_elements : Cond.fieldLink RX6 30 "RootTowers" "elements" "LRootTowers$Elements;" ∈ gT := gT_mem (List.mem_of_getElem? (i := 556) (by decide +kernel)) rfl
theorem klX6_X2 : Cond.classLink RX6 34 RX2 ∈ gT := gT_mem (List.mem_of_getElem? (i := 141) (by decide +kernel)) rfl
theorem istX2 : Cond.instantiable RX2 6 ∈ gT := gT_mem (List.mem_of_getElem? (i := 142) (by decide +kernel)) rfl
theorem mlX6_X2_init : Cond.methodLink RX6 36 yX2_init ∈ gT := gT_mem (List.mem_of_getElem? (i := 143) (by decide +kernel)) rfl
theorem flX6_X6_least : Cond.fieldLink RX6 37 "RootTowers" "least" "LRootTowers$Least;" ∈ gT := gT_mem (List.mem_of_getElem? (i := 557) (by decide +kernel)) rfl
theorem klX6_X4 : Cond.classLink RX6 41 RX4 ∈ gT := gT_mem (List.mem_of_getElem? (i := 167) (by decide +kernel)) rfl
theorem istX4 : Cond.instantiable RX4 3 ∈ gT := gT_mem (List.mem_of_getElem? (i := 168) (by decide +kernel)) rfl
theorem mlX6_X4_init : Cond.methodLink RX6 43 yX4_init ∈ gT := gT_mem (List.mem_of_getElem? (i := 169) (by decide +kernel)) rfl
theorem flX6_X6_script : Cond.fieldLink RX6 44 "RootTowers" "script" "LRootTowers$Script;" ∈ gT := gT_mem (List.mem_of_getElem? (i := 558) (by decide +kernel)) rfl
theorem mlX6_X6_beginAnew : Cond.methodLink RX6 48 yX6_beginAnew ∈ gT := gT_mem (List.mem_of_getElem? (i := 186) (by decide +kernel)) rfl
theorem cdX6_beginAnew : Cond.code yX6_beginAnew cX6_beginAnew 1 none ∈ gT := gT_mem (List.mem_of_getElem? (i := 189) (by decide +kernel)) rfl
theorem imX6_beginAnew : Cond.instanceMethod yX6_beginAnew ∈ gT := gT_mem (List.mem_of_getElem? (i := 188) (by decide +kernel)) rfl
theorem slX6_beginAnew : Cond.selects RX6 yX6_beginAnew yX6_beginAnew ∈ gT := gT_sel (y := yX6_beginAnew) (n := 5) (by decide +kernel)
theorem cdX6_fraction : Cond.code yX6_fraction cX6_fraction 6 (some .int) ∈ gT := gT_mem (List.mem_of_getElem? (i := 573) (by decide +kernel)) rfl
theorem imX6_fraction : Cond.instanceMethod yX6_fraction ∈ gT := gT_mem (List.mem_of_getElem? (i := 571) (by decide +kernel)) rfl
theorem slX6_fraction : Cond.selects RX6 yX6_fraction yX6_fraction ∈ gT := gT_mem (List.mem_of_getElem? (i := 572) (by decide +kernel)) rfl
theorem mlX6_X0_isFull : Cond.methodLink RX6 51 yX0_isFull ∈ gT := gT_mem (List.mem_of_getElem? (i := 574) (by decide +kernel)) rfl
theorem mlX6_X3_whole : Cond.methodLink RX6 55 yX3_whole ∈ gT := gT_mem (List.mem_of_getElem? (i := 578) (by decide +kernel)) rfl
theorem mlX6_X0_adopt : Cond.methodLink RX6 59 yX0_adopt ∈ gT := gT_mem (List.mem_of_getElem? (i := 579) (by decide +kernel)) rfl
theorem cdX6_apply : Cond.code yX6_apply cX6_apply 7 (some .int) ∈ gT := gT_mem (List.mem_of_getElem? (i := 735) (by decide +kernel)) rfl
theorem imX6_apply : Cond.instanceMethod yX6_apply ∈ gT := gT_mem (List.mem_of_getElem? (i := 733) (by decide +kernel)) rfl
theorem slX6_apply : Cond.selects RX6 yX6_apply yX6_apply ∈ gT := gT_mem (List.mem_of_getElem? (i := 734) (by decide +kernel)) rfl
theorem mlX6_X0_has : Cond.methodLink RX6 63 yX0_has ∈ gT := gT_mem (List.mem_of_getElem? (i := 736) (by decide +kernel)) rfl
theorem mlX6_X0_isNought : Cond.methodLink RX6 67 yX0_isNought ∈ gT := gT_mem (List.mem_of_getElem? (i := 740) (by decide +kernel)) rfl
theorem cdX0_isNought : Cond.code yX0_isNought cX0_isNought 2 (some .boolean) ∈ gT := gT_mem (List.mem_of_getElem? (i := 743) (by decide +kernel)) rfl
theorem imX0_isNought : Cond.instanceMethod yX0_isNought ∈ gT := gT_mem (List.mem_of_getElem? (i := 741) (by decide +kernel)) rfl
theorem slX0_isNought : Cond.selects RX0 yX0_isNought yX0_isNought ∈ gT := gT_mem (List.mem_of_getElem? (i := 742) (by decide +kernel)) rfl
theorem flX6_X0_rank : Cond.fieldLink RX6 70 "RootTowers$Elements" "rank" "[I" ∈ gT := gT_mem (List.mem_of_getElem? (i := 125) (by decide +kernel)) rfl
theorem mlX6_X0_widened : Cond.methodLink RX6 79 yX0_widened ∈ gT := gT_mem (List.mem_of_getElem? (i := 745) (by decide +kernel)) rfl
theorem cdX0_widened : Cond.code yX0_widened cX0_widened 5 (some .int) ∈ gT := gT_mem (List.mem_of_getElem? (i := 748) (by decide +kernel)) rfl
theorem imX0_widened : Cond.instanceMethod yX0_widened ∈ gT := gT_mem (List.mem_of_getElem? (i := 746) (by decide +kernel)) rfl
theorem slX0_widened : Cond.selects RX0 yX0_widened yX0_widened ∈ gT := gT_mem (List.mem_of_getElem? (i := 747) (by decide +kernel)) rfl
theorem cdX6_plain : Cond.code yX6_plain cX6_plain 4 (some .int) ∈ gT := gT_mem (List.mem_of_getElem? (i := 1085) (by decide +kernel)) rfl
theorem imX6_plain : Cond.instanceMethod yX6_plain ∈ gT := gT_mem (List.mem_of_getElem? (i := 1083) (by decide +kernel)) rfl
theorem slX6_plain : Cond.selects RX6 yX6_plain yX6_plain ∈ gT := gT_mem (List.mem_of_getElem? (i := 1084) (by decide +kernel)) rfl
theorem mlX6_X1_unitRatio : Cond.methodLink RX6 96 yX1_unitRatio ∈ gT := gT_mem (List.mem_of_getElem? (i := 896) (by decide +kernel)) rfl
theorem cdX1_unitRatio : Cond.code yX1_unitRatio cX1_unitRatio 4 (some .int) ∈ gT := gT_mem (List.mem_of_getElem? (i := 899) (by decide +kernel)) rfl
theorem imX1_unitRatio : Cond.instanceMethod yX1_unitRatio ∈ gT := gT_mem (List.mem_of_getElem? (i := 897) (by decide +kernel)) rfl
theorem slX1_unitRatio : Cond.selects RX1 yX1_unitRatio yX1_unitRatio ∈ gT := gT_mem (List.mem_of_getElem? (i := 898) (by decide +kernel)) rfl
theorem flX6_X0_place : Cond.fieldLink RX6 99 "RootTowers$Elements" "place" "[I" ∈ gT := gT_mem (List.mem_of_getElem? (i := 123) (by decide +kernel)) rfl
theorem mlX6_X1_ratioQuotient : Cond.methodLink RX6 86 yX1_ratioQuotient ∈ gT := gT_mem (List.mem_of_getElem? (i := 770) (by decide +kernel)) rfl
theorem cdX1_ratioQuotient : Cond.code yX1_ratioQuotient cX1_ratioQuotient 8 (some .int) ∈ gT := gT_mem (List.mem_of_getElem? (i := 773) (by decide +kernel)) rfl
theorem imX1_ratioQuotient : Cond.instanceMethod yX1_ratioQuotient ∈ gT := gT_mem (List.mem_of_getElem? (i := 771) (by decide +kernel)) rfl
theorem slX1_ratioQuotient : Cond.selects RX1 yX1_ratioQuotient yX1_ratioQuotient ∈ gT := gT_mem (List.mem_of_getElem? (i := 772) (by decide +kernel)) rfl
theorem cdX6_root : Cond.code yX6_root cX6_root 4 (some .int) ∈ gT := gT_mem (List.mem_of_getElem? (i := 795) (by decide +kernel)) rfl
theorem imX6_root : Cond.instanceMethod yX6_root ∈ gT := gT_mem (List.mem_of_getElem? (i := 793) (by decide +kernel)) rfl
theorem slX6_root : Cond.selects RX6 yX6_root yX6_root ∈ gT := gT_mem (List.mem_of_getElem? (i := 794) (by decide +kernel)) rfl
theorem mlX6_X3_next : Cond.methodLink RX6 102 yX3_next ∈ gT := gT_mem (List.mem_of_getElem? (i := 796) (by decide +kernel)) rfl
theorem mlX6_X0_signAt : Cond.methodLink RX6 106 yX0_signAt ∈ gT := gT_mem (List.mem_of_getElem? (i := 797) (by decide +kernel)) rfl
theorem cdX0_signAt : Cond.code yX0_signAt cX0_signAt 7 (some .int) ∈ gT := gT_mem (List.mem_of_getElem? (i := 800) (by decide +kernel)) rfl
theorem imX0_signAt : Cond.instanceMethod yX0_signAt ∈ gT := gT_mem (List.mem_of_getElem? (i := 798) (by decide +kernel)) rfl
theorem slX0_signAt : Cond.selects RX0 yX0_signAt yX0_signAt ∈ gT := gT_mem (List.mem_of_getElem? (i := 799) (by decide +kernel)) rfl
theorem flX6_X1_height : Cond.fieldLink RX6 109 "RootTowers$Field" "height" "I" ∈ gT := gT_mem (List.mem_of_getElem? (i := 73) (by decide +kernel)) rfl
theorem mlX6_X1_ratioRoot : Cond.methodLink RX6 113 yX1_ratioRoot ∈ gT := gT_mem (List.mem_of_getElem? (i := 860) (by decide +kernel)) rfl
theorem cdX1_ratioRoot : Cond.code yX1_ratioRoot cX1_ratioRoot 7 (some .int) ∈ gT := gT_mem (List.mem_of_getElem? (i := 863) (by decide +kernel)) rfl
theorem imX1_ratioRoot : Cond.instanceMethod yX1_ratioRoot ∈ gT := gT_mem (List.mem_of_getElem? (i := 861) (by decide +kernel)) rfl
theorem slX1_ratioRoot : Cond.selects RX1 yX1_ratioRoot yX1_ratioRoot ∈ gT := gT_mem (List.mem_of_getElem? (i := 862) (by decide +kernel)) rfl
theorem mlX6_X3_rest : Cond.methodLink RX6 116 yX3_rest ∈ gT := gT_mem (List.mem_of_getElem? (i := 887) (by decide +kernel)) rfl
theorem cdX6_isSquare : Cond.code yX6_isSquare cX6_isSquare 4 (some .int) ∈ gT := gT_mem (List.mem_of_getElem? (i := 904) (by decide +kernel)) rfl
theorem imX6_isSquare : Cond.instanceMethod yX6_isSquare ∈ gT := gT_mem (List.mem_of_getElem? (i := 902) (by decide +kernel)) rfl
theorem slX6_isSquare : Cond.selects RX6 yX6_isSquare yX6_isSquare ∈ gT := gT_mem (List.mem_of_getElem? (i := 903) (by decide +kernel)) rfl
theorem cdX6_sign : Cond.code yX6_sign cX6_sign 2 (some .int) ∈ gT := gT_mem (List.mem_of_getElem? (i := 908) (by decide +kernel)) rfl
theorem imX6_sign : Cond.instanceMethod yX6_sign ∈ gT := gT_mem (List.mem_of_getElem? (i := 906) (by decide +kernel)) rfl
theorem slX6_sign : Cond.selects RX6 yX6_sign yX6_sign ∈ gT := gT_mem (List.mem_of_getElem? (i := 907) (by decide +kernel)) rfl
theorem cdX6_compare : Cond.code yX6_compare cX6_compare 8 (some .int) ∈ gT := gT_mem (List.mem_of_getElem? (i := 912) (by decide +kernel)) rfl
theorem imX6_compare : Cond.instanceMethod yX6_compare ∈ gT := gT_mem (List.mem_of_getElem? (i := 910) (by decide +kernel)) rfl
theorem slX6_compare : Cond.selects RX6 yX6_compare yX6_compare ∈ gT := gT_mem (List.mem_of_getElem? (i := 911) (by decide +kernel)) rfl
theorem mlX6_X1_ratioSum : Cond.methodLink RX6 89 yX1_ratioSum ∈ gT := gT_mem (List.mem_of_getElem? (i := 788) (by decide +kernel)) rfl
theorem cdX1_ratioSum : Cond.code yX1_ratioSum cX1_ratioSum 9 (some .int) ∈ gT := gT_mem (List.mem_of_getElem? (i := 791) (by decide +kernel)) rfl
theorem imX1_ratioSum : Cond.instanceMethod yX1_ratioSum ∈ gT := gT_mem (List.mem_of_getElem? (i := 789) (by decide +kernel)) rfl
theorem slX1_ratioSum : Cond.selects RX1 yX1_ratioSum yX1_ratioSum ∈ gT := gT_mem (List.mem_of_getElem? (i := 790) (by decide +kernel)) rfl
theorem cdX6_level : Cond.code yX6_level cX6_level 2 (some .int) ∈ gT := gT_mem (List.mem_of_getElem? (i := 916) (by decide +kernel)) rfl
theorem imX6_level : Cond.instanceMethod yX6_level ∈ gT := gT_mem (List.mem_of_getElem? (i := 914) (by decide +kernel)) rfl
theorem slX6_level : Cond.selects RX6 yX6_level yX6_level ∈ gT := gT_mem (List.mem_of_getElem? (i := 915) (by decide +kernel)) rfl
theorem cdX6_coordinate : Cond.code yX6_coordinate cX6_coordinate 3 (some .int) ∈ gT := gT_mem (List.mem_of_getElem? (i := 920) (by decide +kernel)) rfl
theorem imX6_coordinate : Cond.instanceMethod yX6_coordinate ∈ gT := gT_mem (List.mem_of_getElem? (i := 918) (by decide +kernel)) rfl
theorem slX6_coordinate : Cond.selects RX6 yX6_coordinate yX6_coordinate ∈ gT := gT_mem (List.mem_of_getElem? (i := 919) (by decide +kernel)) rfl
theorem mlX6_X0_part : Cond.methodLink RX6 126 yX0_part ∈ gT := gT_mem (List.mem_of_getElem? (i := 921) (by decide +kernel)) rfl
theorem cdX0_part : Cond.code yX0_part cX0_part 4 (some .int) ∈ gT := gT_mem (List.mem_of_getElem? (i := 924) (by decide +kernel)) rfl
theorem imX0_part : Cond.instanceMethod yX0_part ∈ gT := gT_mem (List.mem_of_getElem? (i := 922) (by decide +kernel)) rfl
theorem slX0_part : Cond.selects RX0 yX0_part yX0_part ∈ gT := gT_mem (List.mem_of_getElem? (i := 923) (by decide +kernel)) rfl
theorem mlX6_X6_resulted : Cond.methodLink RX6 129 yX6_resulted ∈ gT := gT_mem (List.mem_of_getElem? (i := 926) (by decide +kernel)) rfl
theorem cdX6_resulted : Cond.code yX6_resulted cX6_resulted 2 (some .int) ∈ gT := gT_mem (List.mem_of_getElem? (i := 929) (by decide +kernel)) rfl
theorem imX6_resulted : Cond.instanceMethod yX6_resulted ∈ gT := gT_mem (List.mem_of_getElem? (i := 928) (by decide +kernel)) rfl
theorem slX6_resulted : Cond.selects RX6 yX6_resulted yX6_resulted ∈ gT := gT_sel (y := yX6_resulted) (n := 5) (by decide +kernel)
theorem cdX6_radicand : Cond.code yX6_radicand cX6_radicand 3 (some .int) ∈ gT := gT_mem (List.mem_of_getElem? (i := 937) (by decide +kernel)) rfl
theorem imX6_radicand : Cond.instanceMethod yX6_radicand ∈ gT := gT_mem (List.mem_of_getElem? (i := 935) (by decide +kernel)) rfl
theorem slX6_radicand : Cond.selects RX6 yX6_radicand yX6_radicand ∈ gT := gT_mem (List.mem_of_getElem? (i := 936) (by decide +kernel)) rfl
theorem mlX6_X1_radicandPart : Cond.methodLink RX6 132 yX1_radicandPart ∈ gT := gT_mem (List.mem_of_getElem? (i := 938) (by decide +kernel)) rfl
theorem cdX1_radicandPart : Cond.code yX1_radicandPart cX1_radicandPart 6 (some .int) ∈ gT := gT_mem (List.mem_of_getElem? (i := 941) (by decide +kernel)) rfl
theorem imX1_radicandPart : Cond.instanceMethod yX1_radicandPart ∈ gT := gT_mem (List.mem_of_getElem? (i := 939) (by decide +kernel)) rfl
theorem slX1_radicandPart : Cond.selects RX1 yX1_radicandPart yX1_radicandPart ∈ gT := gT_mem (List.mem_of_getElem? (i := 940) (by decide +kernel)) rfl
theorem cdX6_degree : Cond.code yX6_degree cX6_degree 2 (some .int) ∈ gT := gT_mem (List.mem_of_getElem? (i := 946) (by decide +kernel)) rfl
theorem imX6_degree : Cond.instanceMethod yX6_degree ∈ gT := gT_mem (List.mem_of_getElem? (i := 944) (by decide +kernel)) rfl
theorem slX6_degree : Cond.selects RX6 yX6_degree yX6_degree ∈ gT := gT_mem (List.mem_of_getElem? (i := 945) (by decide +kernel)) rfl
theorem mlX6_X2_prepare : Cond.methodLink RX6 135 yX2_prepare ∈ gT := gT_mem (List.mem_of_getElem? (i := 947) (by decide +kernel)) rfl
theorem cdX2_prepare : Cond.code yX2_prepare cX2_prepare 7 none ∈ gT := gT_mem (List.mem_of_getElem? (i := 950) (by decide +kernel)) rfl
theorem imX2_prepare : Cond.instanceMethod yX2_prepare ∈ gT := gT_mem (List.mem_of_getElem? (i := 948) (by decide +kernel)) rfl
theorem slX2_prepare : Cond.selects RX2 yX2_prepare yX2_prepare ∈ gT := gT_mem (List.mem_of_getElem? (i := 949) (by decide +kernel)) rfl
theorem flX6_X2_degree : Cond.fieldLink RX6 139 "RootTowers$Least" "degree" "I" ∈ gT := gT_mem (List.mem_of_getElem? (i := 151) (by decide +kernel)) rfl
theorem cdX6_equation : Cond.code yX6_equation cX6_equation 4 (some .int) ∈ gT := gT_mem (List.mem_of_getElem? (i := 980) (by decide +kernel)) rfl
theorem imX6_equation : Cond.instanceMethod yX6_equation ∈ gT := gT_mem (List.mem_of_getElem? (i := 978) (by decide +kernel)) rfl
theorem slX6_equation : Cond.selects RX6 yX6_equation yX6_equation ∈ gT := gT_mem (List.mem_of_getElem? (i := 979) (by decide +kernel)) rfl
theorem mlX6_X2_part : Cond.methodLink RX6 142 yX2_part ∈ gT := gT_mem (List.mem_of_getElem? (i := 981) (by decide +kernel)) rfl
theorem cdX2_part : Cond.code yX2_part cX2_part 5 (some .int) ∈ gT := gT_mem (List.mem_of_getElem? (i := 984) (by decide +kernel)) rfl
theorem imX2_part : Cond.instanceMethod yX2_part ∈ gT := gT_mem (List.mem_of_getElem? (i := 982) (by decide +kernel)) rfl
theorem slX2_part : Cond.selects RX2 yX2_part yX2_part ∈ gT := gT_mem (List.mem_of_getElem? (i := 983) (by decide +kernel)) rfl
theorem mlX6_X3_isWider : Cond.methodLink RX6 143 yX3_isWider ∈ gT := gT_mem (List.mem_of_getElem? (i := 987) (by decide +kernel)) rfl
theorem cdX6_cut : Cond.code yX6_cut cX6_cut 5 (some .int) ∈ gT := gT_mem (List.mem_of_getElem? (i := 991) (by decide +kernel)) rfl
theorem imX6_cut : Cond.instanceMethod yX6_cut ∈ gT := gT_mem (List.mem_of_getElem? (i := 989) (by decide +kernel)) rfl
theorem slX6_cut : Cond.selects RX6 yX6_cut yX6_cut ∈ gT := gT_mem (List.mem_of_getElem? (i := 990) (by decide +kernel)) rfl
theorem mlX6_X0_floorOf : Cond.methodLink RX6 147 yX0_floorOf ∈ gT := gT_mem (List.mem_of_getElem? (i := 992) (by decide +kernel)) rfl
theorem cdX0_floorOf : Cond.code yX0_floorOf cX0_floorOf 9 (some .int) ∈ gT := gT_mem (List.mem_of_getElem? (i := 995) (by decide +kernel)) rfl
theorem imX0_floorOf : Cond.instanceMethod yX0_floorOf ∈ gT := gT_mem (List.mem_of_getElem? (i := 993) (by decide +kernel)) rfl
theorem slX0_floorOf : Cond.selects RX0 yX0_floorOf yX0_floorOf ∈ gT := gT_mem (List.mem_of_getElem? (i := 994) (by decide +kernel)) rfl
theorem mlX6_X0_isBeyondCut : Cond.methodLink RX6 150 yX0_isBeyondCut ∈ gT := gT_mem (List.mem_of_getElem? (i := 1006) (by decide +kernel)) rfl
theorem cdX0_isBeyondCut : Cond.code yX0_isBeyondCut cX0_isBeyondCut 6 (some .boolean) ∈ gT := gT_mem (List.mem_of_getElem? (i := 1009) (by decide +kernel)) rfl
theorem imX0_isBeyondCut : Cond.instanceMethod yX0_isBeyondCut ∈ gT := gT_mem (List.mem_of_getElem? (i := 1007) (by decide +kernel)) rfl
theorem slX0_isBeyondCut : Cond.selects RX0 yX0_isBeyondCut yX0_isBeyondCut ∈ gT := gT_mem (List.mem_of_getElem? (i := 1008) (by decide +kernel)) rfl
theorem mlX6_X3_lowest : Cond.methodLink RX6 156 yX3_lowest ∈ gT := gT_mem (List.mem_of_getElem? (i := 1014) (by decide +kernel)) rfl
theorem cdX6_denest : Cond.code yX6_denest cX6_denest 4 (some .int) ∈ gT := gT_mem (List.mem_of_getElem? (i := 1018) (by decide +kernel)) rfl
theorem imX6_denest : Cond.instanceMethod yX6_denest ∈ gT := gT_mem (List.mem_of_getElem? (i := 1016) (by decide +kernel)) rfl
theorem slX6_denest : Cond.selects RX6 yX6_denest yX6_denest ∈ gT := gT_mem (List.mem_of_getElem? (i := 1017) (by decide +kernel)) rfl
theorem mlX6_X0_denested : Cond.methodLink RX6 159 yX0_denested ∈ gT := gT_mem (List.mem_of_getElem? (i := 1019) (by decide +kernel)) rfl
theorem cdX0_denested : Cond.code yX0_denested cX0_denested 8 (some .int) ∈ gT := gT_mem (List.mem_of_getElem? (i := 1022) (by decide +kernel)) rfl
theorem imX0_denested : Cond.instanceMethod yX0_denested ∈ gT := gT_mem (List.mem_of_getElem? (i := 1020) (by decide +kernel)) rfl
theorem slX0_denested : Cond.selects RX0 yX0_denested yX0_denested ∈ gT := gT_mem (List.mem_of_getElem? (i := 1021) (by decide +kernel)) rfl
theorem cdX6_text : Cond.code yX6_text cX6_text 3 (some .int) ∈ gT := gT_mem (List.mem_of_getElem? (i := 1030) (by decide +kernel)) rfl
theorem imX6_text : Cond.instanceMethod yX6_text ∈ gT := gT_mem (List.mem_of_getElem? (i := 1028) (by decide +kernel)) rfl
theorem slX6_text : Cond.selects RX6 yX6_text yX6_text ∈ gT := gT_mem (List.mem_of_getElem? (i := 1029) (by decide +kernel)) rfl
theorem mlX6_X4_begin : Cond.methodLink RX6 162 yX4_begin ∈ gT := gT_mem (List.mem_of_getElem? (i := 1031) (by decide +kernel)) rfl
theorem cdX4_begin : Cond.code yX4_begin cX4_begin 1 none ∈ gT := gT_mem (List.mem_of_getElem? (i := 1034) (by decide +kernel)) rfl
theorem imX4_begin : Cond.instanceMethod yX4_begin ∈ gT := gT_mem (List.mem_of_getElem? (i := 1032) (by decide +kernel)) rfl
theorem slX4_begin : Cond.selects RX4 yX4_begin yX4_begin ∈ gT := gT_mem (List.mem_of_getElem? (i := 1033) (by decide +kernel)) rfl
theorem mlX6_X4_write : Cond.methodLink RX6 165 yX4_write ∈ gT := gT_mem (List.mem_of_getElem? (i := 1035) (by decide +kernel)) rfl
theorem cdX4_write : Cond.code yX4_write cX4_write 6 none ∈ gT := gT_mem (List.mem_of_getElem? (i := 1038) (by decide +kernel)) rfl
theorem imX4_write : Cond.instanceMethod yX4_write ∈ gT := gT_mem (List.mem_of_getElem? (i := 1036) (by decide +kernel)) rfl
theorem slX4_write : Cond.selects RX4 yX4_write yX4_write ∈ gT := gT_mem (List.mem_of_getElem? (i := 1037) (by decide +kernel)) rfl
theorem mlX6_X4_end : Cond.methodLink RX6 169 yX4_end ∈ gT := gT_mem (List.mem_of_getElem? (i := 1055) (by decide +kernel)) rfl
theorem cdX4_end : Cond.code yX4_end cX4_end 1 (some .int) ∈ gT := gT_mem (List.mem_of_getElem? (i := 1058) (by decide +kernel)) rfl
theorem imX4_end : Cond.instanceMethod yX4_end ∈ gT := gT_mem (List.mem_of_getElem? (i := 1056) (by decide +kernel)) rfl
theorem slX4_end : Cond.selects RX4 yX4_end yX4_end ∈ gT := gT_mem (List.mem_of_getElem? (i := 1057) (by decide +kernel)) rfl
theorem cdX6_letter : Cond.code yX6_letter cX6_letter 2 (some .int) ∈ gT := gT_mem (List.mem_of_getElem? (i := 1114) (by decide +kernel)) rfl
theorem imX6_letter : Cond.instanceMethod yX6_letter ∈ gT := gT_mem (List.mem_of_getElem? (i := 1112) (by decide +kernel)) rfl
theorem slX6_letter : Cond.selects RX6 yX6_letter yX6_letter ∈ gT := gT_mem (List.mem_of_getElem? (i := 1113) (by decide +kernel)) rfl
theorem flX6_X4_length : Cond.fieldLink RX6 173 "RootTowers$Script" "length" "I" ∈ gT := gT_mem (List.mem_of_getElem? (i := 177) (by decide +kernel)) rfl
theorem flX6_X4_letters : Cond.fieldLink RX6 179 "RootTowers$Script" "letters" "[B" ∈ gT := gT_mem (List.mem_of_getElem? (i := 175) (by decide +kernel)) rfl
theorem cdX6_result : Cond.code yX6_result cX6_result 2 (some .int) ∈ gT := gT_mem (List.mem_of_getElem? (i := 1062) (by decide +kernel)) rfl
theorem imX6_result : Cond.instanceMethod yX6_result ∈ gT := gT_mem (List.mem_of_getElem? (i := 1060) (by decide +kernel)) rfl
theorem slX6_result : Cond.selects RX6 yX6_result yX6_result ∈ gT := gT_mem (List.mem_of_getElem? (i := 1061) (by decide +kernel)) rfl
theorem mlX6_X3_signAt : Cond.methodLink RX6 183 yX3_signAt ∈ gT := gT_mem (List.mem_of_getElem? (i := 1063) (by decide +kernel)) rfl
theorem mlX6_X3_figures : Cond.methodLink RX6 185 yX3_figures ∈ gT := gT_mem (List.mem_of_getElem? (i := 1064) (by decide +kernel)) rfl
theorem cdX6_figure : Cond.code yX6_figure cX6_figure 4 (some .int) ∈ gT := gT_mem (List.mem_of_getElem? (i := 1068) (by decide +kernel)) rfl
theorem imX6_figure : Cond.instanceMethod yX6_figure ∈ gT := gT_mem (List.mem_of_getElem? (i := 1066) (by decide +kernel)) rfl
theorem slX6_figure : Cond.selects RX6 yX6_figure yX6_figure ∈ gT := gT_mem (List.mem_of_getElem? (i := 1067) (by decide +kernel)) rfl
theorem mlX6_X3_figureAt : Cond.methodLink RX6 188 yX3_figureAt ∈ gT := gT_mem (List.mem_of_getElem? (i := 1069) (by decide +kernel)) rfl
theorem cdX6_told : Cond.code yX6_told cX6_told 2 (some .int) ∈ gT := gT_mem (List.mem_of_getElem? (i := 1073) (by decide +kernel)) rfl
theorem imX6_told : Cond.instanceMethod yX6_told ∈ gT := gT_mem (List.mem_of_getElem? (i := 1071) (by decide +kernel)) rfl
theorem slX6_told : Cond.selects RX6 yX6_told yX6_told ∈ gT := gT_mem (List.mem_of_getElem? (i := 1072) (by decide +kernel)) rfl
theorem flX6_X0_count : Cond.fieldLink RX6 191 "RootTowers$Elements" "count" "I" ∈ gT := gT_mem (List.mem_of_getElem? (i := 121) (by decide +kernel)) rfl
theorem cdX6_clear : Cond.code yX6_clear cX6_clear 2 (some .int) ∈ gT := gT_mem (List.mem_of_getElem? (i := 1077) (by decide +kernel)) rfl
theorem imX6_clear : Cond.instanceMethod yX6_clear ∈ gT := gT_mem (List.mem_of_getElem? (i := 1075) (by decide +kernel)) rfl
theorem slX6_clear : Cond.selects RX6 yX6_clear yX6_clear ∈ gT := gT_mem (List.mem_of_getElem? (i := 1076) (by decide +kernel)) rfl
theorem mlX6_X3_reset : Cond.methodLink RX6 194 yX3_reset ∈ gT := gT_mem (List.mem_of_getElem? (i := 190) (by decide +kernel)) rfl
theorem mlX6_X1_reset : Cond.methodLink RX6 197 yX1_reset ∈ gT := gT_mem (List.mem_of_getElem? (i := 226) (by decide +kernel)) rfl
theorem mlX6_X0_reset : Cond.methodLink RX6 198 yX0_reset ∈ gT := gT_mem (List.mem_of_getElem? (i := 230) (by decide +kernel)) rfl
theorem mlX6_X3_settle : Cond.methodLink RX6 199 yX3_settle ∈ gT := gT_mem (List.mem_of_getElem? (i := 550) (by decide +kernel)) rfl
theorem cdX7_take : Cond.code yX7_take cX7_take 3 (some .int) ∈ gT := gT_mem (List.mem_of_getElem? (i := 1137) (by decide +kernel)) rfl
theorem imX7_take : Cond.instanceMethod yX7_take ∈ gT := gT_mem (List.mem_of_getElem? (i := 1136) (by decide +kernel)) rfl
theorem slX7_take : Cond.selects RX7 yX7_take yX7_take ∈ gT := gT_sel (y := yX7_take) (n := 16) (by decide +kernel)
theorem flX7_X7_taken : Cond.fieldLink RX7 1 "RootTowersModel" "taken" "I" ∈ gT := gT_mem (List.mem_of_getElem? (i := 1191) (by decide +kernel)) rfl
theorem cdX7_put : Cond.code yX7_put cX7_put 7 none ∈ gT := gT_mem (List.mem_of_getElem? (i := 1145) (by decide +kernel)) rfl
theorem imX7_put : Cond.instanceMethod yX7_put ∈ gT := gT_mem (List.mem_of_getElem? (i := 1144) (by decide +kernel)) rfl
theorem slX7_put : Cond.selects RX7 yX7_put yX7_put ∈ gT := gT_sel (y := yX7_put) (n := 16) (by decide +kernel)
theorem flX7_X7_sign : Cond.fieldLink RX7 7 "RootTowersModel" "sign" "[I" ∈ gT := gT_mem (List.mem_of_getElem? (i := 1190) (by decide +kernel)) rfl
theorem flX7_X7_size : Cond.fieldLink RX7 11 "RootTowersModel" "size" "[I" ∈ gT := gT_mem (List.mem_of_getElem? (i := 1189) (by decide +kernel)) rfl
theorem clX7_1000000000 : Cond.constantLong RX7 14 (1000000000) ∈ gT := gT_mem (List.mem_of_getElem? (i := 1146) (by decide +kernel)) rfl
theorem flX7_X7_z : Cond.fieldLink RX7 16 "RootTowersModel" "z" "[I" ∈ gT := gT_mem (List.mem_of_getElem? (i := 1188) (by decide +kernel)) rfl
theorem cdX7_copy : Cond.code yX7_copy cX7_copy 4 none ∈ gT := gT_mem (List.mem_of_getElem? (i := 1158) (by decide +kernel)) rfl
theorem imX7_copy : Cond.instanceMethod yX7_copy ∈ gT := gT_mem (List.mem_of_getElem? (i := 1157) (by decide +kernel)) rfl
theorem slX7_copy : Cond.selects RX7 yX7_copy yX7_copy ∈ gT := gT_sel (y := yX7_copy) (n := 16) (by decide +kernel)
theorem cdX7_trim : Cond.code yX7_trim cX7_trim 2 none ∈ gT := gT_mem (List.mem_of_getElem? (i := 1170) (by decide +kernel)) rfl
theorem imX7_trim : Cond.instanceMethod yX7_trim ∈ gT := gT_mem (List.mem_of_getElem? (i := 1169) (by decide +kernel)) rfl
theorem slX7_trim : Cond.selects RX7 yX7_trim yX7_trim ∈ gT := gT_sel (y := yX7_trim) (n := 16) (by decide +kernel)
theorem cdX7_compareSizes : Cond.code yX7_compareSizes cX7_compareSizes 6 (some .int) ∈ gT := gT_mem (List.mem_of_getElem? (i := 1166) (by decide +kernel)) rfl
theorem imX7_compareSizes : Cond.instanceMethod yX7_compareSizes ∈ gT := gT_mem (List.mem_of_getElem? (i := 1165) (by decide +kernel)) rfl
theorem slX7_compareSizes : Cond.selects RX7 yX7_compareSizes yX7_compareSizes ∈ gT := gT_sel (y := yX7_compareSizes) (n := 16) (by decide +kernel)
theorem cdX7_divideSizes : Cond.code yX7_divideSizes cX7_divideSizes 15 none ∈ gT := gT_mem (List.mem_of_getElem? (i := 1162) (by decide +kernel)) rfl
theorem imX7_divideSizes : Cond.instanceMethod yX7_divideSizes ∈ gT := gT_mem (List.mem_of_getElem? (i := 1161) (by decide +kernel)) rfl
theorem slX7_divideSizes : Cond.selects RX7 yX7_divideSizes yX7_divideSizes ∈ gT := gT_sel (y := yX7_divideSizes) (n := 16) (by decide +kernel)
theorem mlX7_X7_compareSizes : Cond.methodLink RX7 19 yX7_compareSizes ∈ gT := gT_mem (List.mem_of_getElem? (i := 1163) (by decide +kernel)) rfl
theorem mlX7_X7_copy : Cond.methodLink RX7 24 yX7_copy ∈ gT := gT_mem (List.mem_of_getElem? (i := 1155) (by decide +kernel)) rfl
theorem mlX7_X7_put : Cond.methodLink RX7 47 yX7_put ∈ gT := gT_mem (List.mem_of_getElem? (i := 1142) (by decide +kernel)) rfl
theorem mlX7_X7_trim : Cond.methodLink RX7 35 yX7_trim ∈ gT := gT_mem (List.mem_of_getElem? (i := 1167) (by decide +kernel)) rfl
theorem mlX7_X7_take : Cond.methodLink RX7 43 yX7_take ∈ gT := gT_mem (List.mem_of_getElem? (i := 1134) (by decide +kernel)) rfl
theorem mlX7_X7_scaled : Cond.methodLink RX7 54 yX7_scaled ∈ gT := gT_mem (List.mem_of_getElem? (i := 1171) (by decide +kernel)) rfl
theorem cdX7_scaled : Cond.code yX7_scaled cX7_scaled 11 none ∈ gT := gT_mem (List.mem_of_getElem? (i := 1174) (by decide +kernel)) rfl
theorem imX7_scaled : Cond.instanceMethod yX7_scaled ∈ gT := gT_mem (List.mem_of_getElem? (i := 1173) (by decide +kernel)) rfl
theorem slX7_scaled : Cond.selects RX7 yX7_scaled yX7_scaled ∈ gT := gT_sel (y := yX7_scaled) (n := 16) (by decide +kernel)
theorem mlX7_X7_digit : Cond.methodLink RX7 58 yX7_digit ∈ gT := gT_mem (List.mem_of_getElem? (i := 1175) (by decide +kernel)) rfl
theorem cdX7_digit : Cond.code yX7_digit cX7_digit 23 (some .int) ∈ gT := gT_mem (List.mem_of_getElem? (i := 1178) (by decide +kernel)) rfl
theorem imX7_digit : Cond.instanceMethod yX7_digit ∈ gT := gT_mem (List.mem_of_getElem? (i := 1177) (by decide +kernel)) rfl
theorem slX7_digit : Cond.selects RX7 yX7_digit yX7_digit ∈ gT := gT_sel (y := yX7_digit) (n := 16) (by decide +kernel)
theorem coX7_1000000000 : Cond.constant RX7 23 (1000000000) ∈ gT := gT_mem (List.mem_of_getElem? (i := 1179) (by decide +kernel)) rfl
theorem cdX7_common : Cond.code yX7_common cX7_common 9 none ∈ gT := gT_mem (List.mem_of_getElem? (i := 1154) (by decide +kernel)) rfl
theorem imX7_common : Cond.instanceMethod yX7_common ∈ gT := gT_mem (List.mem_of_getElem? (i := 1153) (by decide +kernel)) rfl
theorem slX7_common : Cond.selects RX7 yX7_common yX7_common ∈ gT := gT_sel (y := yX7_common) (n := 16) (by decide +kernel)
theorem mlX7_X7_divideSizes : Cond.methodLink RX7 62 yX7_divideSizes ∈ gT := gT_mem (List.mem_of_getElem? (i := 1159) (by decide +kernel)) rfl
theorem mlX7_X7_least : Cond.methodLink RX7 65 yX7_least ∈ gT := gT_mem (List.mem_of_getElem? (i := 1180) (by decide +kernel)) rfl
theorem cdX7_least : Cond.code yX7_least cX7_least 2 (some .int) ∈ gT := gT_mem (List.mem_of_getElem? (i := 1182) (by decide +kernel)) rfl
theorem stX7_least : Cond.static yX7_least ∈ gT := gT_mem (List.mem_of_getElem? (i := 1181) (by decide +kernel)) rfl
theorem cdX7_figures : Cond.code yX7_figures cX7_figures 4 (some .int) ∈ gT := gT_mem (List.mem_of_getElem? (i := 1406) (by decide +kernel)) rfl
theorem imX7_figures : Cond.instanceMethod yX7_figures ∈ gT := gT_mem (List.mem_of_getElem? (i := 1405) (by decide +kernel)) rfl
theorem slX7_figures : Cond.selects RX7 yX7_figures yX7_figures ∈ gT := gT_sel (y := yX7_figures) (n := 16) (by decide +kernel)
theorem cdX7_figureOf : Cond.code yX7_figureOf cX7_figureOf 6 (some .int) ∈ gT := gT_mem (List.mem_of_getElem? (i := 1622) (by decide +kernel)) rfl
theorem imX7_figureOf : Cond.instanceMethod yX7_figureOf ∈ gT := gT_mem (List.mem_of_getElem? (i := 1621) (by decide +kernel)) rfl
theorem slX7_figureOf : Cond.selects RX7 yX7_figureOf yX7_figureOf ∈ gT := gT_sel (y := yX7_figureOf) (n := 16) (by decide +kernel)
theorem mlX7_X7_figures : Cond.methodLink RX7 73 yX7_figures ∈ gT := gT_mem (List.mem_of_getElem? (i := 1403) (by decide +kernel)) rfl
theorem cdX7_reduce : Cond.code yX7_reduce cX7_reduce 4 none ∈ gT := gT_mem (List.mem_of_getElem? (i := 1150) (by decide +kernel)) rfl
theorem imX7_reduce : Cond.instanceMethod yX7_reduce ∈ gT := gT_mem (List.mem_of_getElem? (i := 1149) (by decide +kernel)) rfl
theorem slX7_reduce : Cond.selects RX7 yX7_reduce yX7_reduce ∈ gT := gT_sel (y := yX7_reduce) (n := 16) (by decide +kernel)
theorem mlX7_X7_common : Cond.methodLink RX7 76 yX7_common ∈ gT := gT_mem (List.mem_of_getElem? (i := 1151) (by decide +kernel)) rfl
theorem cdX7_fSet : Cond.code yX7_fSet cX7_fSet 6 none ∈ gT := gT_mem (List.mem_of_getElem? (i := 1141) (by decide +kernel)) rfl
theorem imX7_fSet : Cond.instanceMethod yX7_fSet ∈ gT := gT_mem (List.mem_of_getElem? (i := 1140) (by decide +kernel)) rfl
theorem slX7_fSet : Cond.selects RX7 yX7_fSet yX7_fSet ∈ gT := gT_sel (y := yX7_fSet) (n := 16) (by decide +kernel)
theorem mlX7_X7_reduce : Cond.methodLink RX7 79 yX7_reduce ∈ gT := gT_mem (List.mem_of_getElem? (i := 1147) (by decide +kernel)) rfl
theorem cdX7_init : Cond.code yX7_init cX7_init 2 none ∈ gT := gT_mem (List.mem_of_getElem? (i := 1127) (by decide +kernel)) rfl
theorem imX7_init : Cond.instanceMethod yX7_init ∈ gT := gT_mem (List.mem_of_getElem? (i := 1126) (by decide +kernel)) rfl
theorem coX7_1250000 : Cond.constant RX7 101 (1250000) ∈ gT := gT_mem (List.mem_of_getElem? (i := 1129) (by decide +kernel)) rfl
theorem flX7_X7_store : Cond.fieldLink RX7 102 "RootTowersModel" "store" "[I" ∈ gT := gT_mem (List.mem_of_getElem? (i := 1192) (by decide +kernel)) rfl
theorem flX7_X7_storeSize : Cond.fieldLink RX7 105 "RootTowersModel" "storeSize" "[I" ∈ gT := gT_mem (List.mem_of_getElem? (i := 1193) (by decide +kernel)) rfl
theorem flX7_X7_storeSign : Cond.fieldLink RX7 108 "RootTowersModel" "storeSign" "[I" ∈ gT := gT_mem (List.mem_of_getElem? (i := 1194) (by decide +kernel)) rfl
theorem flX7_X7_kept : Cond.fieldLink RX7 111 "RootTowersModel" "kept" "[I" ∈ gT := gT_mem (List.mem_of_getElem? (i := 1197) (by decide +kernel)) rfl
theorem flX7_X7_keptSize : Cond.fieldLink RX7 114 "RootTowersModel" "keptSize" "[I" ∈ gT := gT_mem (List.mem_of_getElem? (i := 1198) (by decide +kernel)) rfl
theorem flX7_X7_keptSign : Cond.fieldLink RX7 117 "RootTowersModel" "keptSign" "[I" ∈ gT := gT_mem (List.mem_of_getElem? (i := 1199) (by decide +kernel)) rfl
theorem flX7_X7_letterRow : Cond.fieldLink RX7 120 "RootTowersModel" "letterRow" "[I" ∈ gT := gT_mem (List.mem_of_getElem? (i := 1201) (by decide +kernel)) rfl
theorem mlX7_X7_clear : Cond.methodLink RX7 123 yX7_clear ∈ gT := gT_mem (List.mem_of_getElem? (i := 1130) (by decide +kernel)) rfl
theorem cdX7_clear : Cond.code yX7_clear cX7_clear 4 (some .int) ∈ gT := gT_mem (List.mem_of_getElem? (i := 1133) (by decide +kernel)) rfl
theorem imX7_clear : Cond.instanceMethod yX7_clear ∈ gT := gT_mem (List.mem_of_getElem? (i := 1131) (by decide +kernel)) rfl
theorem slX7_clear : Cond.selects RX7 yX7_clear yX7_clear ∈ gT := gT_mem (List.mem_of_getElem? (i := 1132) (by decide +kernel)) rfl
theorem cdX7_thrown : Cond.code yX7_thrown cX7_thrown 1 (some .int) ∈ gT := gT_mem (List.mem_of_getElem? (i := 1239) (by decide +kernel)) rfl
theorem imX7_thrown : Cond.instanceMethod yX7_thrown ∈ gT := gT_mem (List.mem_of_getElem? (i := 1237) (by decide +kernel)) rfl
theorem slX7_thrown : Cond.selects RX7 yX7_thrown yX7_thrown ∈ gT := gT_mem (List.mem_of_getElem? (i := 1238) (by decide +kernel)) rfl
theorem flX7_X7_thrown : Cond.fieldLink RX7 127 "RootTowersModel" "thrown" "I" ∈ gT := gT_mem (List.mem_of_getElem? (i := 1187) (by decide +kernel)) rfl
theorem cdX7_keepPart : Cond.code yX7_keepPart cX7_keepPart 6 none ∈ gT := gT_mem (List.mem_of_getElem? (i := 1262) (by decide +kernel)) rfl
theorem imX7_keepPart : Cond.instanceMethod yX7_keepPart ∈ gT := gT_mem (List.mem_of_getElem? (i := 1261) (by decide +kernel)) rfl
theorem slX7_keepPart : Cond.selects RX7 yX7_keepPart yX7_keepPart ∈ gT := gT_sel (y := yX7_keepPart) (n := 16) (by decide +kernel)
theorem cdX7_results : Cond.code yX7_results cX7_results 4 (some .int) ∈ gT := gT_mem (List.mem_of_getElem? (i := 1186) (by decide +kernel)) rfl
theorem imX7_results : Cond.instanceMethod yX7_results ∈ gT := gT_mem (List.mem_of_getElem? (i := 1185) (by decide +kernel)) rfl
theorem slX7_results : Cond.selects RX7 yX7_results yX7_results ∈ gT := gT_sel (y := yX7_results) (n := 16) (by decide +kernel)
theorem cdX7_many : Cond.code yX7_many cX7_many 1 (some .int) ∈ gT := gT_mem (List.mem_of_getElem? (i := 1250) (by decide +kernel)) rfl
theorem stX7_many : Cond.static yX7_many ∈ gT := gT_mem (List.mem_of_getElem? (i := 1249) (by decide +kernel)) rfl
theorem cdX7_takeNumber : Cond.code yX7_takeNumber cX7_takeNumber 2 (some .int) ∈ gT := gT_mem (List.mem_of_getElem? (i := 1247) (by decide +kernel)) rfl
theorem imX7_takeNumber : Cond.instanceMethod yX7_takeNumber ∈ gT := gT_mem (List.mem_of_getElem? (i := 1246) (by decide +kernel)) rfl
theorem slX7_takeNumber : Cond.selects RX7 yX7_takeNumber yX7_takeNumber ∈ gT := gT_sel (y := yX7_takeNumber) (n := 16) (by decide +kernel)
theorem mlX7_X7_many : Cond.methodLink RX7 130 yX7_many ∈ gT := gT_mem (List.mem_of_getElem? (i := 1248) (by decide +kernel)) rfl
theorem cdX7_vClear : Cond.code yX7_vClear cX7_vClear 4 none ∈ gT := gT_mem (List.mem_of_getElem? (i := 1254) (by decide +kernel)) rfl
theorem imX7_vClear : Cond.instanceMethod yX7_vClear ∈ gT := gT_mem (List.mem_of_getElem? (i := 1253) (by decide +kernel)) rfl
theorem slX7_vClear : Cond.selects RX7 yX7_vClear yX7_vClear ∈ gT := gT_sel (y := yX7_vClear) (n := 16) (by decide +kernel)
theorem mlX7_X7_fSet : Cond.methodLink RX7 85 yX7_fSet ∈ gT := gT_mem (List.mem_of_getElem? (i := 1138) (by decide +kernel)) rfl
theorem cdX7_isElement : Cond.code yX7_isElement cX7_isElement 2 (some .boolean) ∈ gT := gT_mem (List.mem_of_getElem? (i := 1274) (by decide +kernel)) rfl
theorem imX7_isElement : Cond.instanceMethod yX7_isElement ∈ gT := gT_mem (List.mem_of_getElem? (i := 1273) (by decide +kernel)) rfl
theorem slX7_isElement : Cond.selects RX7 yX7_isElement yX7_isElement ∈ gT := gT_sel (y := yX7_isElement) (n := 16) (by decide +kernel)
theorem flX7_X7_elements : Cond.fieldLink RX7 285 "RootTowersModel" "elements" "I" ∈ gT := gT_mem (List.mem_of_getElem? (i := 1195) (by decide +kernel)) rfl
theorem cdX7_keepElement : Cond.code yX7_keepElement cX7_keepElement 3 (some .int) ∈ gT := gT_mem (List.mem_of_getElem? (i := 1258) (by decide +kernel)) rfl
theorem imX7_keepElement : Cond.instanceMethod yX7_keepElement ∈ gT := gT_mem (List.mem_of_getElem? (i := 1257) (by decide +kernel)) rfl
theorem slX7_keepElement : Cond.selects RX7 yX7_keepElement yX7_keepElement ∈ gT := gT_sel (y := yX7_keepElement) (n := 16) (by decide +kernel)
theorem flX7_X7_roots : Cond.fieldLink RX7 133 "RootTowersModel" "roots" "I" ∈ gT := gT_mem (List.mem_of_getElem? (i := 1196) (by decide +kernel)) rfl
theorem mlX7_X7_keepPart : Cond.methodLink RX7 288 yX7_keepPart ∈ gT := gT_mem (List.mem_of_getElem? (i := 1259) (by decide +kernel)) rfl
theorem mlX7_X7_noPart : Cond.methodLink RX7 291 yX7_noPart ∈ gT := gT_mem (List.mem_of_getElem? (i := 1263) (by decide +kernel)) rfl
theorem cdX7_noPart : Cond.code yX7_noPart cX7_noPart 2 none ∈ gT := gT_mem (List.mem_of_getElem? (i := 1266) (by decide +kernel)) rfl
theorem imX7_noPart : Cond.instanceMethod yX7_noPart ∈ gT := gT_mem (List.mem_of_getElem? (i := 1265) (by decide +kernel)) rfl
theorem slX7_noPart : Cond.selects RX7 yX7_noPart yX7_noPart ∈ gT := gT_sel (y := yX7_noPart) (n := 16) (by decide +kernel)
theorem cdX7_fraction : Cond.code yX7_fraction cX7_fraction 6 (some .int) ∈ gT := gT_mem (List.mem_of_getElem? (i := 1243) (by decide +kernel)) rfl
theorem imX7_fraction : Cond.instanceMethod yX7_fraction ∈ gT := gT_mem (List.mem_of_getElem? (i := 1241) (by decide +kernel)) rfl
theorem slX7_fraction : Cond.selects RX7 yX7_fraction yX7_fraction ∈ gT := gT_mem (List.mem_of_getElem? (i := 1242) (by decide +kernel)) rfl
theorem mlX7_X7_takeNumber : Cond.methodLink RX7 230 yX7_takeNumber ∈ gT := gT_mem (List.mem_of_getElem? (i := 1244) (by decide +kernel)) rfl
theorem mlX7_X7_vClear : Cond.methodLink RX7 227 yX7_vClear ∈ gT := gT_mem (List.mem_of_getElem? (i := 1251) (by decide +kernel)) rfl
theorem mlX7_X7_keepElement : Cond.methodLink RX7 294 yX7_keepElement ∈ gT := gT_mem (List.mem_of_getElem? (i := 1255) (by decide +kernel)) rfl
theorem cdX7_apply : Cond.code yX7_apply cX7_apply 7 (some .int) ∈ gT := gT_mem (List.mem_of_getElem? (i := 1270) (by decide +kernel)) rfl
theorem imX7_apply : Cond.instanceMethod yX7_apply ∈ gT := gT_mem (List.mem_of_getElem? (i := 1268) (by decide +kernel)) rfl
theorem slX7_apply : Cond.selects RX7 yX7_apply yX7_apply ∈ gT := gT_mem (List.mem_of_getElem? (i := 1269) (by decide +kernel)) rfl
theorem mlX7_X7_isElement : Cond.methodLink RX7 297 yX7_isElement ∈ gT := gT_mem (List.mem_of_getElem? (i := 1271) (by decide +kernel)) rfl
theorem mlX7_X7_element : Cond.methodLink RX7 301 yX7_element ∈ gT := gT_mem (List.mem_of_getElem? (i := 1275) (by decide +kernel)) rfl
theorem cdX7_element : Cond.code yX7_element cX7_element 4 none ∈ gT := gT_mem (List.mem_of_getElem? (i := 1278) (by decide +kernel)) rfl
theorem imX7_element : Cond.instanceMethod yX7_element ∈ gT := gT_mem (List.mem_of_getElem? (i := 1277) (by decide +kernel)) rfl
theorem slX7_element : Cond.selects RX7 yX7_element yX7_element ∈ gT := gT_sel (y := yX7_element) (n := 16) (by decide +kernel)
theorem cdX7_plain : Cond.code yX7_plain cX7_plain 3 (some .int) ∈ gT := gT_mem (List.mem_of_getElem? (i := 1410) (by decide +kernel)) rfl
theorem imX7_plain : Cond.instanceMethod yX7_plain ∈ gT := gT_mem (List.mem_of_getElem? (i := 1408) (by decide +kernel)) rfl
theorem slX7_plain : Cond.selects RX7 yX7_plain yX7_plain ∈ gT := gT_mem (List.mem_of_getElem? (i := 1409) (by decide +kernel)) rfl
theorem mlX7_X7_isNone : Cond.methodLink RX7 224 yX7_isNone ∈ gT := gT_mem (List.mem_of_getElem? (i := 1283) (by decide +kernel)) rfl
theorem cdX7_isNone : Cond.code yX7_isNone cX7_isNone 5 (some .boolean) ∈ gT := gT_mem (List.mem_of_getElem? (i := 1286) (by decide +kernel)) rfl
theorem imX7_isNone : Cond.instanceMethod yX7_isNone ∈ gT := gT_mem (List.mem_of_getElem? (i := 1285) (by decide +kernel)) rfl
theorem slX7_isNone : Cond.selects RX7 yX7_isNone yX7_isNone ∈ gT := gT_sel (y := yX7_isNone) (n := 16) (by decide +kernel)
theorem mlX7_X7_vTurn : Cond.methodLink RX7 304 yX7_vTurn ∈ gT := gT_mem (List.mem_of_getElem? (i := 1315) (by decide +kernel)) rfl
theorem cdX7_vTurn : Cond.code yX7_vTurn cX7_vTurn 4 none ∈ gT := gT_mem (List.mem_of_getElem? (i := 1318) (by decide +kernel)) rfl
theorem imX7_vTurn : Cond.instanceMethod yX7_vTurn ∈ gT := gT_mem (List.mem_of_getElem? (i := 1317) (by decide +kernel)) rfl
theorem slX7_vTurn : Cond.selects RX7 yX7_vTurn yX7_vTurn ∈ gT := gT_sel (y := yX7_vTurn) (n := 16) (by decide +kernel)
theorem mlX7_X7_isWide : Cond.methodLink RX7 310 yX7_isWide ∈ gT := gT_mem (List.mem_of_getElem? (i := 1399) (by decide +kernel)) rfl
theorem cdX7_isWide : Cond.code yX7_isWide cX7_isWide 5 (some .boolean) ∈ gT := gT_mem (List.mem_of_getElem? (i := 1402) (by decide +kernel)) rfl
theorem imX7_isWide : Cond.instanceMethod yX7_isWide ∈ gT := gT_mem (List.mem_of_getElem? (i := 1401) (by decide +kernel)) rfl
theorem slX7_isWide : Cond.selects RX7 yX7_isWide yX7_isWide ∈ gT := gT_sel (y := yX7_isWide) (n := 16) (by decide +kernel)
theorem cdX7_root : Cond.code yX7_root cX7_root 5 (some .int) ∈ gT := gT_mem (List.mem_of_getElem? (i := 1414) (by decide +kernel)) rfl
theorem imX7_root : Cond.instanceMethod yX7_root ∈ gT := gT_mem (List.mem_of_getElem? (i := 1412) (by decide +kernel)) rfl
theorem slX7_root : Cond.selects RX7 yX7_root yX7_root ∈ gT := gT_mem (List.mem_of_getElem? (i := 1413) (by decide +kernel)) rfl
theorem mlX7_X7_vSign : Cond.methodLink RX7 313 yX7_vSign ∈ gT := gT_mem (List.mem_of_getElem? (i := 1415) (by decide +kernel)) rfl
theorem cdX7_vSign : Cond.code yX7_vSign cX7_vSign 3 (some .int) ∈ gT := gT_mem (List.mem_of_getElem? (i := 1418) (by decide +kernel)) rfl
theorem imX7_vSign : Cond.instanceMethod yX7_vSign ∈ gT := gT_mem (List.mem_of_getElem? (i := 1417) (by decide +kernel)) rfl
theorem slX7_vSign : Cond.selects RX7 yX7_vSign yX7_vSign ∈ gT := gT_sel (y := yX7_vSign) (n := 16) (by decide +kernel)
theorem mlX7_X7_vRoot : Cond.methodLink RX7 316 yX7_vRoot ∈ gT := gT_mem (List.mem_of_getElem? (i := 1439) (by decide +kernel)) rfl
theorem cdX7_vRoot : Cond.code yX7_vRoot cX7_vRoot 4 (some .boolean) ∈ gT := gT_mem (List.mem_of_getElem? (i := 1442) (by decide +kernel)) rfl
theorem imX7_vRoot : Cond.instanceMethod yX7_vRoot ∈ gT := gT_mem (List.mem_of_getElem? (i := 1441) (by decide +kernel)) rfl
theorem slX7_vRoot : Cond.selects RX7 yX7_vRoot yX7_vRoot ∈ gT := gT_sel (y := yX7_vRoot) (n := 16) (by decide +kernel)
theorem mlX7_X7_vNegate : Cond.methodLink RX7 246 yX7_vNegate ∈ gT := gT_mem (List.mem_of_getElem? (i := 1351) (by decide +kernel)) rfl
theorem cdX7_vNegate : Cond.code yX7_vNegate cX7_vNegate 4 none ∈ gT := gT_mem (List.mem_of_getElem? (i := 1354) (by decide +kernel)) rfl
theorem imX7_vNegate : Cond.instanceMethod yX7_vNegate ∈ gT := gT_mem (List.mem_of_getElem? (i := 1353) (by decide +kernel)) rfl
theorem slX7_vNegate : Cond.selects RX7 yX7_vNegate yX7_vNegate ∈ gT := gT_sel (y := yX7_vNegate) (n := 16) (by decide +kernel)
theorem cdX7_isSquare : Cond.code yX7_isSquare cX7_isSquare 4 (some .int) ∈ gT := gT_mem (List.mem_of_getElem? (i := 1528) (by decide +kernel)) rfl
theorem imX7_isSquare : Cond.instanceMethod yX7_isSquare ∈ gT := gT_mem (List.mem_of_getElem? (i := 1526) (by decide +kernel)) rfl
theorem slX7_isSquare : Cond.selects RX7 yX7_isSquare yX7_isSquare ∈ gT := gT_mem (List.mem_of_getElem? (i := 1527) (by decide +kernel)) rfl
theorem cdX7_sign : Cond.code yX7_sign cX7_sign 3 (some .int) ∈ gT := gT_mem (List.mem_of_getElem? (i := 1532) (by decide +kernel)) rfl
theorem imX7_sign : Cond.instanceMethod yX7_sign ∈ gT := gT_mem (List.mem_of_getElem? (i := 1530) (by decide +kernel)) rfl
theorem slX7_sign : Cond.selects RX7 yX7_sign yX7_sign ∈ gT := gT_mem (List.mem_of_getElem? (i := 1531) (by decide +kernel)) rfl
theorem cdX7_compare : Cond.code yX7_compare cX7_compare 5 (some .int) ∈ gT := gT_mem (List.mem_of_getElem? (i := 1536) (by decide +kernel)) rfl
theorem imX7_compare : Cond.instanceMethod yX7_compare ∈ gT := gT_mem (List.mem_of_getElem? (i := 1534) (by decide +kernel)) rfl
theorem slX7_compare : Cond.selects RX7 yX7_compare yX7_compare ∈ gT := gT_mem (List.mem_of_getElem? (i := 1535) (by decide +kernel)) rfl
theorem mlX7_X7_vSum : Cond.methodLink RX7 236 yX7_vSum ∈ gT := gT_mem (List.mem_of_getElem? (i := 1287) (by decide +kernel)) rfl
theorem cdX7_vSum : Cond.code yX7_vSum cX7_vSum 7 none ∈ gT := gT_mem (List.mem_of_getElem? (i := 1290) (by decide +kernel)) rfl
theorem imX7_vSum : Cond.instanceMethod yX7_vSum ∈ gT := gT_mem (List.mem_of_getElem? (i := 1289) (by decide +kernel)) rfl
theorem slX7_vSum : Cond.selects RX7 yX7_vSum yX7_vSum ∈ gT := gT_sel (y := yX7_vSum) (n := 16) (by decide +kernel)
theorem cdX7_level : Cond.code yX7_level cX7_level 2 (some .int) ∈ gT := gT_mem (List.mem_of_getElem? (i := 1540) (by decide +kernel)) rfl
theorem imX7_level : Cond.instanceMethod yX7_level ∈ gT := gT_mem (List.mem_of_getElem? (i := 1538) (by decide +kernel)) rfl
theorem slX7_level : Cond.selects RX7 yX7_level yX7_level ∈ gT := gT_mem (List.mem_of_getElem? (i := 1539) (by decide +kernel)) rfl
theorem mlX7_X7_levelOf : Cond.methodLink RX7 320 yX7_levelOf ∈ gT := gT_mem (List.mem_of_getElem? (i := 1541) (by decide +kernel)) rfl
theorem cdX7_levelOf : Cond.code yX7_levelOf cX7_levelOf 4 (some .int) ∈ gT := gT_mem (List.mem_of_getElem? (i := 1544) (by decide +kernel)) rfl
theorem imX7_levelOf : Cond.instanceMethod yX7_levelOf ∈ gT := gT_mem (List.mem_of_getElem? (i := 1543) (by decide +kernel)) rfl
theorem slX7_levelOf : Cond.selects RX7 yX7_levelOf yX7_levelOf ∈ gT := gT_sel (y := yX7_levelOf) (n := 16) (by decide +kernel)
theorem cdX7_coordinate : Cond.code yX7_coordinate cX7_coordinate 4 (some .int) ∈ gT := gT_mem (List.mem_of_getElem? (i := 1548) (by decide +kernel)) rfl
theorem imX7_coordinate : Cond.instanceMethod yX7_coordinate ∈ gT := gT_mem (List.mem_of_getElem? (i := 1546) (by decide +kernel)) rfl
theorem slX7_coordinate : Cond.selects RX7 yX7_coordinate yX7_coordinate ∈ gT := gT_mem (List.mem_of_getElem? (i := 1547) (by decide +kernel)) rfl
theorem mlX7_X7_part : Cond.methodLink RX7 136 yX7_part ∈ gT := gT_mem (List.mem_of_getElem? (i := 1279) (by decide +kernel)) rfl
theorem cdX7_part : Cond.code yX7_part cX7_part 6 none ∈ gT := gT_mem (List.mem_of_getElem? (i := 1282) (by decide +kernel)) rfl
theorem imX7_part : Cond.instanceMethod yX7_part ∈ gT := gT_mem (List.mem_of_getElem? (i := 1281) (by decide +kernel)) rfl
theorem slX7_part : Cond.selects RX7 yX7_part yX7_part ∈ gT := gT_sel (y := yX7_part) (n := 16) (by decide +kernel)
theorem mlX7_X7_results : Cond.methodLink RX7 323 yX7_results ∈ gT := gT_mem (List.mem_of_getElem? (i := 1183) (by decide +kernel)) rfl
theorem cdX7_radicand : Cond.code yX7_radicand cX7_radicand 4 (some .int) ∈ gT := gT_mem (List.mem_of_getElem? (i := 1552) (by decide +kernel)) rfl
theorem imX7_radicand : Cond.instanceMethod yX7_radicand ∈ gT := gT_mem (List.mem_of_getElem? (i := 1550) (by decide +kernel)) rfl
theorem slX7_radicand : Cond.selects RX7 yX7_radicand yX7_radicand ∈ gT := gT_mem (List.mem_of_getElem? (i := 1551) (by decide +kernel)) rfl
theorem cdX7_degree : Cond.code yX7_degree cX7_degree 2 (some .int) ∈ gT := gT_mem (List.mem_of_getElem? (i := 1556) (by decide +kernel)) rfl
theorem imX7_degree : Cond.instanceMethod yX7_degree ∈ gT := gT_mem (List.mem_of_getElem? (i := 1554) (by decide +kernel)) rfl
theorem slX7_degree : Cond.selects RX7 yX7_degree yX7_degree ∈ gT := gT_mem (List.mem_of_getElem? (i := 1555) (by decide +kernel)) rfl
theorem mlX7_X7_equationOf : Cond.methodLink RX7 347 yX7_equationOf ∈ gT := gT_mem (List.mem_of_getElem? (i := 1557) (by decide +kernel)) rfl
theorem cdX7_equationOf : Cond.code yX7_equationOf cX7_equationOf 8 (some .int) ∈ gT := gT_mem (List.mem_of_getElem? (i := 1560) (by decide +kernel)) rfl
theorem imX7_equationOf : Cond.instanceMethod yX7_equationOf ∈ gT := gT_mem (List.mem_of_getElem? (i := 1559) (by decide +kernel)) rfl
theorem slX7_equationOf : Cond.selects RX7 yX7_equationOf yX7_equationOf ∈ gT := gT_sel (y := yX7_equationOf) (n := 16) (by decide +kernel)
theorem cdX7_equation : Cond.code yX7_equation cX7_equation 5 (some .int) ∈ gT := gT_mem (List.mem_of_getElem? (i := 1592) (by decide +kernel)) rfl
theorem imX7_equation : Cond.instanceMethod yX7_equation ∈ gT := gT_mem (List.mem_of_getElem? (i := 1590) (by decide +kernel)) rfl
theorem slX7_equation : Cond.selects RX7 yX7_equation yX7_equation ∈ gT := gT_mem (List.mem_of_getElem? (i := 1591) (by decide +kernel)) rfl
theorem flX7_X7_place : Cond.fieldLink RX7 332 "RootTowersModel" "place" "I" ∈ gT := gT_mem (List.mem_of_getElem? (i := 1202) (by decide +kernel)) rfl
theorem cdX7_cut : Cond.code yX7_cut cX7_cut 12 (some .int) ∈ gT := gT_mem (List.mem_of_getElem? (i := 1596) (by decide +kernel)) rfl
theorem imX7_cut : Cond.instanceMethod yX7_cut ∈ gT := gT_mem (List.mem_of_getElem? (i := 1594) (by decide +kernel)) rfl
theorem slX7_cut : Cond.selects RX7 yX7_cut yX7_cut ∈ gT := gT_mem (List.mem_of_getElem? (i := 1595) (by decide +kernel)) rfl
theorem clX7_m1000000 : Cond.constantLong RX7 350 (-1000000) ∈ gT := gT_mem (List.mem_of_getElem? (i := 1597) (by decide +kernel)) rfl
theorem mlX7_X7_signLess : Cond.methodLink RX7 352 yX7_signLess ∈ gT := gT_mem (List.mem_of_getElem? (i := 1598) (by decide +kernel)) rfl
theorem cdX7_signLess : Cond.code yX7_signLess cX7_signLess 9 (some .int) ∈ gT := gT_mem (List.mem_of_getElem? (i := 1601) (by decide +kernel)) rfl
theorem imX7_signLess : Cond.instanceMethod yX7_signLess ∈ gT := gT_mem (List.mem_of_getElem? (i := 1600) (by decide +kernel)) rfl
theorem slX7_signLess : Cond.selects RX7 yX7_signLess yX7_signLess ∈ gT := gT_sel (y := yX7_signLess) (n := 16) (by decide +kernel)
theorem clX7_1000000 : Cond.constantLong RX7 356 (1000000) ∈ gT := gT_mem (List.mem_of_getElem? (i := 1602) (by decide +kernel)) rfl
theorem clX7_10 : Cond.constantLong RX7 68 (10) ∈ gT := gT_mem (List.mem_of_getElem? (i := 1459) (by decide +kernel)) rfl
theorem cdX7_denest : Cond.code yX7_denest cX7_denest 7 (some .int) ∈ gT := gT_mem (List.mem_of_getElem? (i := 1606) (by decide +kernel)) rfl
theorem imX7_denest : Cond.instanceMethod yX7_denest ∈ gT := gT_mem (List.mem_of_getElem? (i := 1604) (by decide +kernel)) rfl
theorem slX7_denest : Cond.selects RX7 yX7_denest yX7_denest ∈ gT := gT_mem (List.mem_of_getElem? (i := 1605) (by decide +kernel)) rfl
theorem cdX7_text : Cond.code yX7_text cX7_text 5 (some .int) ∈ gT := gT_mem (List.mem_of_getElem? (i := 1610) (by decide +kernel)) rfl
theorem imX7_text : Cond.instanceMethod yX7_text ∈ gT := gT_mem (List.mem_of_getElem? (i := 1608) (by decide +kernel)) rfl
theorem slX7_text : Cond.selects RX7 yX7_text yX7_text ∈ gT := gT_mem (List.mem_of_getElem? (i := 1609) (by decide +kernel)) rfl
theorem flX7_X7_letters : Cond.fieldLink RX7 358 "RootTowersModel" "letters" "I" ∈ gT := gT_mem (List.mem_of_getElem? (i := 1200) (by decide +kernel)) rfl
theorem mlX7_X7_lay : Cond.methodLink RX7 364 yX7_lay ∈ gT := gT_mem (List.mem_of_getElem? (i := 1611) (by decide +kernel)) rfl
theorem cdX7_lay : Cond.code yX7_lay cX7_lay 2 none ∈ gT := gT_mem (List.mem_of_getElem? (i := 1614) (by decide +kernel)) rfl
theorem imX7_lay : Cond.instanceMethod yX7_lay ∈ gT := gT_mem (List.mem_of_getElem? (i := 1613) (by decide +kernel)) rfl
theorem slX7_lay : Cond.selects RX7 yX7_lay yX7_lay ∈ gT := gT_sel (y := yX7_lay) (n := 16) (by decide +kernel)
theorem mlX7_X7_layNumber : Cond.methodLink RX7 367 yX7_layNumber ∈ gT := gT_mem (List.mem_of_getElem? (i := 1615) (by decide +kernel)) rfl
theorem cdX7_layNumber : Cond.code yX7_layNumber cX7_layNumber 4 none ∈ gT := gT_mem (List.mem_of_getElem? (i := 1618) (by decide +kernel)) rfl
theorem imX7_layNumber : Cond.instanceMethod yX7_layNumber ∈ gT := gT_mem (List.mem_of_getElem? (i := 1617) (by decide +kernel)) rfl
theorem slX7_layNumber : Cond.selects RX7 yX7_layNumber yX7_layNumber ∈ gT := gT_sel (y := yX7_layNumber) (n := 16) (by decide +kernel)
theorem cdX7_letter : Cond.code yX7_letter cX7_letter 2 (some .int) ∈ gT := gT_mem (List.mem_of_getElem? (i := 1626) (by decide +kernel)) rfl
theorem imX7_letter : Cond.instanceMethod yX7_letter ∈ gT := gT_mem (List.mem_of_getElem? (i := 1624) (by decide +kernel)) rfl
theorem slX7_letter : Cond.selects RX7 yX7_letter yX7_letter ∈ gT := gT_mem (List.mem_of_getElem? (i := 1625) (by decide +kernel)) rfl
theorem cdX7_keptTo : Cond.code yX7_keptTo cX7_keptTo 4 none ∈ gT := gT_mem (List.mem_of_getElem? (i := 1634) (by decide +kernel)) rfl
theorem imX7_keptTo : Cond.instanceMethod yX7_keptTo ∈ gT := gT_mem (List.mem_of_getElem? (i := 1633) (by decide +kernel)) rfl
theorem slX7_keptTo : Cond.selects RX7 yX7_keptTo yX7_keptTo ∈ gT := gT_sel (y := yX7_keptTo) (n := 16) (by decide +kernel)
theorem cdX7_result : Cond.code yX7_result cX7_result 3 (some .int) ∈ gT := gT_mem (List.mem_of_getElem? (i := 1630) (by decide +kernel)) rfl
theorem imX7_result : Cond.instanceMethod yX7_result ∈ gT := gT_mem (List.mem_of_getElem? (i := 1628) (by decide +kernel)) rfl
theorem slX7_result : Cond.selects RX7 yX7_result yX7_result ∈ gT := gT_mem (List.mem_of_getElem? (i := 1629) (by decide +kernel)) rfl
theorem mlX7_X7_keptTo : Cond.methodLink RX7 370 yX7_keptTo ∈ gT := gT_mem (List.mem_of_getElem? (i := 1631) (by decide +kernel)) rfl
theorem cdX7_figure : Cond.code yX7_figure cX7_figure 4 (some .int) ∈ gT := gT_mem (List.mem_of_getElem? (i := 1638) (by decide +kernel)) rfl
theorem imX7_figure : Cond.instanceMethod yX7_figure ∈ gT := gT_mem (List.mem_of_getElem? (i := 1636) (by decide +kernel)) rfl
theorem slX7_figure : Cond.selects RX7 yX7_figure yX7_figure ∈ gT := gT_mem (List.mem_of_getElem? (i := 1637) (by decide +kernel)) rfl
theorem mlX7_X7_figureOf : Cond.methodLink RX7 361 yX7_figureOf ∈ gT := gT_mem (List.mem_of_getElem? (i := 1619) (by decide +kernel)) rfl
theorem cdX7_told : Cond.code yX7_told cX7_told 2 (some .int) ∈ gT := gT_mem (List.mem_of_getElem? (i := 1642) (by decide +kernel)) rfl
theorem imX7_told : Cond.instanceMethod yX7_told ∈ gT := gT_mem (List.mem_of_getElem? (i := 1640) (by decide +kernel)) rfl
theorem slX7_told : Cond.selects RX7 yX7_told yX7_told ∈ gT := gT_mem (List.mem_of_getElem? (i := 1641) (by decide +kernel)) rfl
