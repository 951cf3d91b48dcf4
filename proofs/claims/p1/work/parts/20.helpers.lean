theorem dX7_isRow_0 : decode cX7_isRow 0 = .ok (.iload_n 0, 1) := by decide +kernel
theorem dX7_isRow_1 : decode cX7_isRow 1 = .ok (.ifCond .lt 12, 3) := by decide +kernel
theorem dX7_isRow_13 : decode cX7_isRow 13 = .ok (.iconst 0, 1) := by decide +kernel
theorem dX7_isRow_14 : decode cX7_isRow 14 = .ok (.ireturn, 1) := by decide +kernel
theorem dX7_isRow_4 : decode cX7_isRow 4 = .ok (.iload_n 0, 1) := by decide +kernel
theorem dX7_isRow_5 : decode cX7_isRow 5 = .ok (.iconst 4, 1) := by decide +kernel
theorem dX7_isRow_6 : decode cX7_isRow 6 = .ok (.if_icmp .ge 7, 3) := by decide +kernel
theorem dX7_isRow_9 : decode cX7_isRow 9 = .ok (.iconst 1, 1) := by decide +kernel
theorem dX7_isRow_10 : decode cX7_isRow 10 = .ok (.goto 4, 3) := by decide +kernel
theorem dX7_isHarmSpan_0 : decode cX7_isHarmSpan 0 = .ok (.iload_n 0, 1) := by decide +kernel
theorem dX7_isHarmSpan_1 : decode cX7_isHarmSpan 1 = .ok (.iconst 1, 1) := by decide +kernel
theorem dX7_isHarmSpan_2 : decode cX7_isHarmSpan 2 = .ok (.if_icmp .lt 13, 3) := by decide +kernel
theorem dX7_isHarmSpan_15 : decode cX7_isHarmSpan 15 = .ok (.iconst 0, 1) := by decide +kernel
theorem dX7_isHarmSpan_16 : decode cX7_isHarmSpan 16 = .ok (.ireturn, 1) := by decide +kernel
theorem dX7_isHarmSpan_5 : decode cX7_isHarmSpan 5 = .ok (.iload_n 0, 1) := by decide +kernel
theorem dX7_isHarmSpan_6 : decode cX7_isHarmSpan 6 = .ok (.bipush 12, 2) := by decide +kernel
theorem dX7_isHarmSpan_8 : decode cX7_isHarmSpan 8 = .ok (.if_icmp .gt 7, 3) := by decide +kernel
theorem dX7_isHarmSpan_11 : decode cX7_isHarmSpan 11 = .ok (.iconst 1, 1) := by decide +kernel
theorem dX7_isHarmSpan_12 : decode cX7_isHarmSpan 12 = .ok (.goto 4, 3) := by decide +kernel
theorem dX7_thatchRefusal_0 : decode cX7_thatchRefusal 0 = .ok (.aload_n 0, 1) := by decide +kernel
theorem dX7_thatchRefusal_1 : decode cX7_thatchRefusal 1 = .ok (.getfield 19, 3) := by decide +kernel
theorem mw_20 : Cond.fieldLink RX7 19 "ThatchNext" "now" "LThatchNext$World;" ∈ wsL_law := List.mem_of_getElem? (i := 20) (by decide +kernel)
theorem dX7_thatchRefusal_4 : decode cX7_thatchRefusal 4 = .ok (.iload_n 1, 1) := by decide +kernel
theorem dX7_thatchRefusal_5 : decode cX7_thatchRefusal 5 = .ok (.invokevirtual 103, 3) := by decide +kernel
theorem hd_yX6_isRoof : HD yX6_isRoof RX6 1 := by decide +kernel
theorem mw_364 : Cond.methodLink RX7 103 yX6_isRoof ∈ wsL_law := List.mem_of_getElem? (i := 364) (by decide +kernel)
theorem mw_365 : Cond.instanceMethod yX6_isRoof ∈ wsL_law := List.mem_of_getElem? (i := 365) (by decide +kernel)
theorem mw_366 : Cond.selects RX6 yX6_isRoof yX6_isRoof ∈ wsL_law := List.mem_of_getElem? (i := 366) (by decide +kernel)
theorem mw_367 : Cond.code yX6_isRoof cX6_isRoof 2 (some .boolean) ∈ wsL_law := List.mem_of_getElem? (i := 367) (by decide +kernel)
theorem dX7_thatchRefusal_8 : decode cX7_thatchRefusal 8 = .ok (.ifCond .ne 6, 3) := by decide +kernel
theorem dX7_thatchRefusal_11 : decode cX7_thatchRefusal 11 = .ok (.bipush (-2), 2) := by decide +kernel
theorem dX7_thatchRefusal_13 : decode cX7_thatchRefusal 13 = .ok (.ireturn, 1) := by decide +kernel
theorem dX7_nextDraw_0 : decode cX7_nextDraw 0 = .ok (.ldc_w 366, 3) := by decide +kernel
theorem mw_626 : Cond.constant RX7 366 (1103515245) ∈ wsL_law := List.mem_of_getElem? (i := 626) (by decide +kernel)
theorem dX7_nextDraw_3 : decode cX7_nextDraw 3 = .ok (.iload_n 0, 1) := by decide +kernel
theorem dX7_nextDraw_4 : decode cX7_nextDraw 4 = .ok (.imul, 1) := by decide +kernel
theorem dX7_nextDraw_5 : decode cX7_nextDraw 5 = .ok (.sipush 12345, 3) := by decide +kernel
theorem dX7_nextDraw_8 : decode cX7_nextDraw 8 = .ok (.iadd, 1) := by decide +kernel
theorem dX7_nextDraw_9 : decode cX7_nextDraw 9 = .ok (.ireturn, 1) := by decide +kernel
theorem dX7_power_0 : decode cX7_power 0 = .ok (.lconst 1, 1) := by decide +kernel
theorem dX7_power_1 : decode cX7_power 1 = .ok (.lstore_n 2, 1) := by decide +kernel
theorem dX7_power_2 : decode cX7_power 2 = .ok (.iconst 0, 1) := by decide +kernel
theorem dX7_power_3 : decode cX7_power 3 = .ok (.istore 4, 2) := by decide +kernel
theorem dX7_power_5 : decode cX7_power 5 = .ok (.iload 4, 2) := by decide +kernel
theorem dX7_power_7 : decode cX7_power 7 = .ok (.iload_n 1, 1) := by decide +kernel
theorem dX7_power_8 : decode cX7_power 8 = .ok (.if_icmp .ge 14, 3) := by decide +kernel
theorem dX7_power_22 : decode cX7_power 22 = .ok (.lload_n 2, 1) := by decide +kernel
theorem dX7_power_23 : decode cX7_power 23 = .ok (.lreturn, 1) := by decide +kernel
theorem dX7_oddsRefusal_0 : decode cX7_oddsRefusal 0 = .ok (.iload_n 1, 1) := by decide +kernel
theorem dX7_oddsRefusal_1 : decode cX7_oddsRefusal 1 = .ok (.iconst 1, 1) := by decide +kernel
theorem dX7_oddsRefusal_2 : decode cX7_oddsRefusal 2 = .ok (.if_icmp .lt 9, 3) := by decide +kernel
theorem dX7_oddsRefusal_11 : decode cX7_oddsRefusal 11 = .ok (.bipush (-3), 2) := by decide +kernel
theorem dX7_oddsRefusal_13 : decode cX7_oddsRefusal 13 = .ok (.ireturn, 1) := by decide +kernel
theorem dX7_oddsRefusal_5 : decode cX7_oddsRefusal 5 = .ok (.iload_n 1, 1) := by decide +kernel
theorem dX7_oddsRefusal_6 : decode cX7_oddsRefusal 6 = .ok (.bipush 6, 2) := by decide +kernel
theorem dX7_oddsRefusal_8 : decode cX7_oddsRefusal 8 = .ok (.if_icmp .le 6, 3) := by decide +kernel
theorem dX7_oddsRefusal_14 : decode cX7_oddsRefusal 14 = .ok (.aload_n 0, 1) := by decide +kernel
theorem dX7_oddsRefusal_15 : decode cX7_oddsRefusal 15 = .ok (.getfield 19, 3) := by decide +kernel
theorem dX7_oddsRefusal_18 : decode cX7_oddsRefusal 18 = .ok (.invokevirtual 278, 3) := by decide +kernel
theorem hd_yX6_sparksInAll : HD yX6_sparksInAll RX6 0 := by decide +kernel
theorem mw_886 : Cond.methodLink RX7 278 yX6_sparksInAll ∈ wsL_law := List.mem_of_getElem? (i := 886) (by decide +kernel)
theorem mw_887 : Cond.instanceMethod yX6_sparksInAll ∈ wsL_law := List.mem_of_getElem? (i := 887) (by decide +kernel)
theorem mw_888 : Cond.selects RX6 yX6_sparksInAll yX6_sparksInAll ∈ wsL_law := List.mem_of_getElem? (i := 888) (by decide +kernel)
theorem mw_889 : Cond.code yX6_sparksInAll cX6_sparksInAll 3 (some .int) ∈ wsL_law := List.mem_of_getElem? (i := 889) (by decide +kernel)
theorem dX7_oddsRefusal_21 : decode cX7_oddsRefusal 21 = .ok (.iconst 3, 1) := by decide +kernel
theorem dX7_oddsRefusal_22 : decode cX7_oddsRefusal 22 = .ok (.if_icmp .le 8, 3) := by decide +kernel
theorem dX7_oddsRefusal_30 : decode cX7_oddsRefusal 30 = .ok (.iconst 0, 1) := by decide +kernel
theorem dX7_oddsRefusal_31 : decode cX7_oddsRefusal 31 = .ok (.ireturn, 1) := by decide +kernel
theorem dX7_pastRefusal_0 : decode cX7_pastRefusal 0 = .ok (.aload_n 0, 1) := by decide +kernel
theorem dX7_pastRefusal_1 : decode cX7_pastRefusal 1 = .ok (.getfield 34, 3) := by decide +kernel
theorem mw_24 : Cond.fieldLink RX7 34 "ThatchNext" "imaged" "[Z" ∈ wsL_law := List.mem_of_getElem? (i := 24) (by decide +kernel)
theorem dX7_pastRefusal_4 : decode cX7_pastRefusal 4 = .ok (.iconst 0, 1) := by decide +kernel
theorem dX7_pastRefusal_5 : decode cX7_pastRefusal 5 = .ok (.baload, 1) := by decide +kernel
theorem dX7_pastRefusal_6 : decode cX7_pastRefusal 6 = .ok (.ifCond .eq 22, 3) := by decide +kernel
theorem dX7_pastRefusal_28 : decode cX7_pastRefusal 28 = .ok (.bipush (-5), 2) := by decide +kernel
theorem dX7_pastRefusal_30 : decode cX7_pastRefusal 30 = .ok (.ireturn, 1) := by decide +kernel
theorem dX7_findMousePaths_0 : decode cX7_findMousePaths 0 = .ok (.iconst 0, 1) := by decide +kernel
theorem dX7_findMousePaths_1 : decode cX7_findMousePaths 1 = .ok (.istore_n 2, 1) := by decide +kernel
theorem dX7_findMousePaths_2 : decode cX7_findMousePaths 2 = .ok (.iconst 0, 1) := by decide +kernel
theorem dX7_findMousePaths_3 : decode cX7_findMousePaths 3 = .ok (.istore_n 3, 1) := by decide +kernel
theorem dX7_findMousePaths_4 : decode cX7_findMousePaths 4 = .ok (.iload_n 3, 1) := by decide +kernel
theorem dX7_findMousePaths_5 : decode cX7_findMousePaths 5 = .ok (.aload_n 0, 1) := by decide +kernel
theorem dX7_findMousePaths_6 : decode cX7_findMousePaths 6 = .ok (.getfield 19, 3) := by decide +kernel
theorem dX7_findMousePaths_9 : decode cX7_findMousePaths 9 = .ok (.getfield 203, 3) := by decide +kernel
theorem mw_622 : Cond.fieldLink RX7 203 "ThatchNext$World" "roofs" "I" ∈ wsL_law := List.mem_of_getElem? (i := 622) (by decide +kernel)
theorem dX7_findMousePaths_12 : decode cX7_findMousePaths 12 = .ok (.if_icmp .ge 90, 3) := by decide +kernel
theorem dX7_findMousePaths_102 : decode cX7_findMousePaths 102 = .ok (.iload_n 2, 1) := by decide +kernel
theorem dX7_findMousePaths_103 : decode cX7_findMousePaths 103 = .ok (.ireturn, 1) := by decide +kernel
theorem dX7_meetsAllPaths_0 : decode cX7_meetsAllPaths 0 = .ok (.iconst 0, 1) := by decide +kernel
theorem dX7_meetsAllPaths_1 : decode cX7_meetsAllPaths 1 = .ok (.istore_n 3, 1) := by decide +kernel
theorem dX7_meetsAllPaths_2 : decode cX7_meetsAllPaths 2 = .ok (.iload_n 3, 1) := by decide +kernel
theorem dX7_meetsAllPaths_3 : decode cX7_meetsAllPaths 3 = .ok (.iload_n 2, 1) := by decide +kernel
theorem dX7_meetsAllPaths_4 : decode cX7_meetsAllPaths 4 = .ok (.if_icmp .ge 22, 3) := by decide +kernel
theorem dX7_meetsAllPaths_26 : decode cX7_meetsAllPaths 26 = .ok (.iconst 1, 1) := by decide +kernel
theorem dX7_meetsAllPaths_27 : decode cX7_meetsAllPaths 27 = .ok (.ireturn, 1) := by decide +kernel
theorem dJ6_bitCount_0f7a4_0 : decode cJ6_bitCount_0f7a4 0 = .ok (.iload_n 0, 1) := by decide +kernel
theorem dJ6_bitCount_0f7a4_1 : decode cJ6_bitCount_0f7a4 1 = .ok (.iload_n 0, 1) := by decide +kernel
theorem dJ6_bitCount_0f7a4_2 : decode cJ6_bitCount_0f7a4 2 = .ok (.iconst 1, 1) := by decide +kernel
theorem dJ6_bitCount_0f7a4_3 : decode cJ6_bitCount_0f7a4 3 = .ok (.iushr, 1) := by decide +kernel
theorem dJ6_bitCount_0f7a4_4 : decode cJ6_bitCount_0f7a4 4 = .ok (.ldc_w 265, 3) := by decide +kernel
theorem mw_728 : Cond.constant RJ6 265 (1431655765) ∈ wsL_law := List.mem_of_getElem? (i := 728) (by decide +kernel)
theorem dJ6_bitCount_0f7a4_7 : decode cJ6_bitCount_0f7a4 7 = .ok (.iand, 1) := by decide +kernel
theorem dJ6_bitCount_0f7a4_8 : decode cJ6_bitCount_0f7a4 8 = .ok (.isub, 1) := by decide +kernel
theorem dJ6_bitCount_0f7a4_9 : decode cJ6_bitCount_0f7a4 9 = .ok (.istore_n 0, 1) := by decide +kernel
theorem dJ6_bitCount_0f7a4_10 : decode cJ6_bitCount_0f7a4 10 = .ok (.iload_n 0, 1) := by decide +kernel
theorem dJ6_bitCount_0f7a4_11 : decode cJ6_bitCount_0f7a4 11 = .ok (.ldc_w 266, 3) := by decide +kernel
theorem mw_729 : Cond.constant RJ6 266 (858993459) ∈ wsL_law := List.mem_of_getElem? (i := 729) (by decide +kernel)
theorem dJ6_bitCount_0f7a4_14 : decode cJ6_bitCount_0f7a4 14 = .ok (.iand, 1) := by decide +kernel
theorem dJ6_bitCount_0f7a4_15 : decode cJ6_bitCount_0f7a4 15 = .ok (.iload_n 0, 1) := by decide +kernel
theorem dJ6_bitCount_0f7a4_16 : decode cJ6_bitCount_0f7a4 16 = .ok (.iconst 2, 1) := by decide +kernel
theorem dJ6_bitCount_0f7a4_17 : decode cJ6_bitCount_0f7a4 17 = .ok (.iushr, 1) := by decide +kernel
theorem dJ6_bitCount_0f7a4_18 : decode cJ6_bitCount_0f7a4 18 = .ok (.ldc_w 266, 3) := by decide +kernel
theorem dJ6_bitCount_0f7a4_21 : decode cJ6_bitCount_0f7a4 21 = .ok (.iand, 1) := by decide +kernel
theorem dJ6_bitCount_0f7a4_22 : decode cJ6_bitCount_0f7a4 22 = .ok (.iadd, 1) := by decide +kernel
theorem dJ6_bitCount_0f7a4_23 : decode cJ6_bitCount_0f7a4 23 = .ok (.istore_n 0, 1) := by decide +kernel
theorem dJ6_bitCount_0f7a4_24 : decode cJ6_bitCount_0f7a4 24 = .ok (.iload_n 0, 1) := by decide +kernel
theorem dJ6_bitCount_0f7a4_25 : decode cJ6_bitCount_0f7a4 25 = .ok (.iload_n 0, 1) := by decide +kernel
theorem dJ6_bitCount_0f7a4_26 : decode cJ6_bitCount_0f7a4 26 = .ok (.iconst 4, 1) := by decide +kernel
theorem dJ6_bitCount_0f7a4_27 : decode cJ6_bitCount_0f7a4 27 = .ok (.iushr, 1) := by decide +kernel
theorem dJ6_bitCount_0f7a4_28 : decode cJ6_bitCount_0f7a4 28 = .ok (.iadd, 1) := by decide +kernel
theorem dJ6_bitCount_0f7a4_29 : decode cJ6_bitCount_0f7a4 29 = .ok (.ldc_w 267, 3) := by decide +kernel
theorem mw_730 : Cond.constant RJ6 267 (252645135) ∈ wsL_law := List.mem_of_getElem? (i := 730) (by decide +kernel)
theorem dJ6_bitCount_0f7a4_32 : decode cJ6_bitCount_0f7a4 32 = .ok (.iand, 1) := by decide +kernel
theorem dJ6_bitCount_0f7a4_33 : decode cJ6_bitCount_0f7a4 33 = .ok (.istore_n 0, 1) := by decide +kernel
theorem dJ6_bitCount_0f7a4_34 : decode cJ6_bitCount_0f7a4 34 = .ok (.iload_n 0, 1) := by decide +kernel
theorem dJ6_bitCount_0f7a4_35 : decode cJ6_bitCount_0f7a4 35 = .ok (.iload_n 0, 1) := by decide +kernel
theorem dJ6_bitCount_0f7a4_36 : decode cJ6_bitCount_0f7a4 36 = .ok (.bipush 8, 2) := by decide +kernel
theorem dJ6_bitCount_0f7a4_38 : decode cJ6_bitCount_0f7a4 38 = .ok (.iushr, 1) := by decide +kernel
theorem dJ6_bitCount_0f7a4_39 : decode cJ6_bitCount_0f7a4 39 = .ok (.iadd, 1) := by decide +kernel
theorem dJ6_bitCount_0f7a4_40 : decode cJ6_bitCount_0f7a4 40 = .ok (.istore_n 0, 1) := by decide +kernel
theorem dJ6_bitCount_0f7a4_41 : decode cJ6_bitCount_0f7a4 41 = .ok (.iload_n 0, 1) := by decide +kernel
theorem dJ6_bitCount_0f7a4_42 : decode cJ6_bitCount_0f7a4 42 = .ok (.iload_n 0, 1) := by decide +kernel
theorem dJ6_bitCount_0f7a4_43 : decode cJ6_bitCount_0f7a4 43 = .ok (.bipush 16, 2) := by decide +kernel
theorem dJ6_bitCount_0f7a4_45 : decode cJ6_bitCount_0f7a4 45 = .ok (.iushr, 1) := by decide +kernel
theorem dJ6_bitCount_0f7a4_46 : decode cJ6_bitCount_0f7a4 46 = .ok (.iadd, 1) := by decide +kernel
theorem dJ6_bitCount_0f7a4_47 : decode cJ6_bitCount_0f7a4 47 = .ok (.istore_n 0, 1) := by decide +kernel
theorem dJ6_bitCount_0f7a4_48 : decode cJ6_bitCount_0f7a4 48 = .ok (.iload_n 0, 1) := by decide +kernel
theorem dJ6_bitCount_0f7a4_49 : decode cJ6_bitCount_0f7a4 49 = .ok (.bipush 63, 2) := by decide +kernel
theorem dJ6_bitCount_0f7a4_51 : decode cJ6_bitCount_0f7a4 51 = .ok (.iand, 1) := by decide +kernel
theorem dJ6_bitCount_0f7a4_52 : decode cJ6_bitCount_0f7a4 52 = .ok (.ireturn, 1) := by decide +kernel
theorem dX7_harmedBy_0 : decode cX7_harmedBy 0 = .ok (.iload_n 1, 1) := by decide +kernel
theorem dX7_harmedBy_1 : decode cX7_harmedBy 1 = .ok (.aload_n 0, 1) := by decide +kernel
theorem dX7_harmedBy_2 : decode cX7_harmedBy 2 = .ok (.getfield 19, 3) := by decide +kernel
theorem dX7_harmedBy_5 : decode cX7_harmedBy 5 = .ok (.aload_n 0, 1) := by decide +kernel
theorem dX7_harmedBy_6 : decode cX7_harmedBy 6 = .ok (.getfield 23, 3) := by decide +kernel
theorem mw_21 : Cond.fieldLink RX7 23 "ThatchNext" "trial" "LThatchNext$World;" ∈ wsL_law := List.mem_of_getElem? (i := 21) (by decide +kernel)
theorem dX7_harmedBy_9 : decode cX7_harmedBy 9 = .ok (.invokevirtual 238, 3) := by decide +kernel
theorem hd_yX6_drySkippers : HD yX6_drySkippers RX6 1 := by decide +kernel
theorem mw_714 : Cond.methodLink RX7 238 yX6_drySkippers ∈ wsL_law := List.mem_of_getElem? (i := 714) (by decide +kernel)
theorem mw_715 : Cond.instanceMethod yX6_drySkippers ∈ wsL_law := List.mem_of_getElem? (i := 715) (by decide +kernel)
theorem mw_716 : Cond.selects RX6 yX6_drySkippers yX6_drySkippers ∈ wsL_law := List.mem_of_getElem? (i := 716) (by decide +kernel)
theorem mw_717 : Cond.code yX6_drySkippers cX6_drySkippers 2 (some .int) ∈ wsL_law := List.mem_of_getElem? (i := 717) (by decide +kernel)
theorem dX7_harmedBy_12 : decode cX7_harmedBy 12 = .ok (.iconst (-1), 1) := by decide +kernel
theorem dX7_harmedBy_13 : decode cX7_harmedBy 13 = .ok (.ixor, 1) := by decide +kernel
theorem dX7_harmedBy_14 : decode cX7_harmedBy 14 = .ok (.iand, 1) := by decide +kernel
theorem dX7_harmedBy_15 : decode cX7_harmedBy 15 = .ok (.ireturn, 1) := by decide +kernel
theorem dX5_takeInt_0 : decode cX5_takeInt 0 = .ok (.bipush 24, 2) := by decide +kernel
theorem dX5_takeInt_2 : decode cX5_takeInt 2 = .ok (.istore_n 2, 1) := by decide +kernel
theorem dX5_takeInt_3 : decode cX5_takeInt 3 = .ok (.iload_n 2, 1) := by decide +kernel
theorem dX5_takeInt_4 : decode cX5_takeInt 4 = .ok (.ifCond .lt 42, 3) := by decide +kernel
theorem dX5_takeInt_7 : decode cX5_takeInt 7 = .ok (.aload_n 0, 1) := by decide +kernel
theorem dX5_takeInt_8 : decode cX5_takeInt 8 = .ok (.getfield 26, 3) := by decide +kernel
theorem mw_120 : Cond.fieldLink RX5 26 "ThatchNext$Reader" "taped" "I" ∈ wsL_law := List.mem_of_getElem? (i := 120) (by decide +kernel)
theorem dX5_takeInt_11 : decode cX5_takeInt 11 = .ok (.sipush 900, 3) := by decide +kernel
theorem dX5_takeInt_14 : decode cX5_takeInt 14 = .ok (.if_icmp .ge 32, 3) := by decide +kernel
theorem dX5_takeInt_17 : decode cX5_takeInt 17 = .ok (.aload_n 0, 1) := by decide +kernel
theorem dX5_takeInt_18 : decode cX5_takeInt 18 = .ok (.getfield 22, 3) := by decide +kernel
theorem mw_50 : Cond.fieldLink RX5 22 "ThatchNext$Reader" "text" "[B" ∈ wsL_law := List.mem_of_getElem? (i := 50) (by decide +kernel)
theorem dX5_takeInt_21 : decode cX5_takeInt 21 = .ok (.aload_n 0, 1) := by decide +kernel
theorem dX5_takeInt_22 : decode cX5_takeInt 22 = .ok (.getfield 26, 3) := by decide +kernel
theorem dX5_takeInt_25 : decode cX5_takeInt 25 = .ok (.iload_n 1, 1) := by decide +kernel
theorem dX5_takeInt_26 : decode cX5_takeInt 26 = .ok (.iload_n 2, 1) := by decide +kernel
theorem dX5_takeInt_27 : decode cX5_takeInt 27 = .ok (.iushr, 1) := by decide +kernel
theorem dX5_takeInt_28 : decode cX5_takeInt 28 = .ok (.i2b, 1) := by decide +kernel
theorem dX5_takeInt_29 : decode cX5_takeInt 29 = .ok (.bastore, 1) := by decide +kernel
theorem dX5_takeInt_30 : decode cX5_takeInt 30 = .ok (.aload_n 0, 1) := by decide +kernel
theorem dX5_takeInt_31 : decode cX5_takeInt 31 = .ok (.dup, 1) := by decide +kernel
theorem dX5_takeInt_32 : decode cX5_takeInt 32 = .ok (.getfield 26, 3) := by decide +kernel
theorem dX5_takeInt_35 : decode cX5_takeInt 35 = .ok (.iconst 1, 1) := by decide +kernel
theorem dX5_takeInt_36 : decode cX5_takeInt 36 = .ok (.iadd, 1) := by decide +kernel
theorem dX5_takeInt_37 : decode cX5_takeInt 37 = .ok (.putfield 26, 3) := by decide +kernel
theorem dX5_takeInt_40 : decode cX5_takeInt 40 = .ok (.iinc 2 (-8), 3) := by decide +kernel
theorem dX5_takeInt_43 : decode cX5_takeInt 43 = .ok (.goto (-40), 3) := by decide +kernel
theorem dX5_takeInt_46 : decode cX5_takeInt 46 = .ok (.return_, 1) := by decide +kernel
theorem dX5_advance_0 : decode cX5_advance 0 = .ok (.aload_n 0, 1) := by decide +kernel
theorem dX5_advance_1 : decode cX5_advance 1 = .ok (.getfield 44, 3) := by decide +kernel
theorem mw_146 : Cond.fieldLink RX5 44 "ThatchNext$Reader" "next" "I" ∈ wsL_law := List.mem_of_getElem? (i := 146) (by decide +kernel)
theorem dX5_advance_4 : decode cX5_advance 4 = .ok (.aload_n 0, 1) := by decide +kernel
theorem dX5_advance_5 : decode cX5_advance 5 = .ok (.getfield 35, 3) := by decide +kernel
theorem mw_144 : Cond.fieldLink RX5 35 "ThatchNext$Reader" "length" "I" ∈ wsL_law := List.mem_of_getElem? (i := 144) (by decide +kernel)
theorem dX5_advance_8 : decode cX5_advance 8 = .ok (.if_icmp .ge 44, 3) := by decide +kernel
theorem dX5_advance_52 : decode cX5_advance 52 = .ok (.aload_n 0, 1) := by decide +kernel
theorem dX5_advance_53 : decode cX5_advance 53 = .ok (.aload_n 0, 1) := by decide +kernel
theorem dX5_advance_54 : decode cX5_advance 54 = .ok (.getfield 44, 3) := by decide +kernel
theorem dX5_advance_57 : decode cX5_advance 57 = .ok (.putfield 56, 3) := by decide +kernel
theorem mw_163 : Cond.fieldLink RX5 56 "ThatchNext$Reader" "start" "I" ∈ wsL_law := List.mem_of_getElem? (i := 163) (by decide +kernel)
theorem dX5_advance_60 : decode cX5_advance 60 = .ok (.aload_n 0, 1) := by decide +kernel
theorem dX5_advance_61 : decode cX5_advance 61 = .ok (.getfield 44, 3) := by decide +kernel
theorem dX5_advance_64 : decode cX5_advance 64 = .ok (.aload_n 0, 1) := by decide +kernel
theorem dX5_advance_65 : decode cX5_advance 65 = .ok (.getfield 35, 3) := by decide +kernel
theorem dX5_advance_68 : decode cX5_advance 68 = .ok (.if_icmp .lt 11, 3) := by decide +kernel
theorem dX5_advance_71 : decode cX5_advance 71 = .ok (.aload_n 0, 1) := by decide +kernel
theorem dX5_advance_72 : decode cX5_advance 72 = .ok (.iconst 1, 1) := by decide +kernel
theorem dX5_advance_73 : decode cX5_advance 73 = .ok (.putfield 50, 3) := by decide +kernel
theorem mw_147 : Cond.fieldLink RX5 50 "ThatchNext$Reader" "token" "I" ∈ wsL_law := List.mem_of_getElem? (i := 147) (by decide +kernel)
theorem dX5_advance_76 : decode cX5_advance 76 = .ok (.goto 187, 3) := by decide +kernel
theorem dX5_advance_263 : decode cX5_advance 263 = .ok (.aload_n 0, 1) := by decide +kernel
theorem dX5_advance_264 : decode cX5_advance 264 = .ok (.getfield 50, 3) := by decide +kernel
theorem dX5_advance_267 : decode cX5_advance 267 = .ok (.iconst 3, 1) := by decide +kernel
theorem dX5_advance_268 : decode cX5_advance 268 = .ok (.if_icmp .ne 21, 3) := by decide +kernel
theorem dX5_advance_289 : decode cX5_advance 289 = .ok (.return_, 1) := by decide +kernel
theorem dX5_read_0 : decode cX5_read 0 = .ok (.aload_n 0, 1) := by decide +kernel
theorem dX5_read_1 : decode cX5_read 1 = .ok (.iload_n 1, 1) := by decide +kernel
theorem dX5_read_2 : decode cX5_read 2 = .ok (.sipush 900, 3) := by decide +kernel
theorem dX5_read_5 : decode cX5_read 5 = .ok (.invokestatic 29, 3) := by decide +kernel
theorem mw_140 : Cond.methodLink RX5 29 Lib.Math.min.name ∈ wsL_law := List.mem_of_getElem? (i := 140) (by decide +kernel)
theorem mw_141 : Cond.static Lib.Math.min.name ∈ wsL_law := List.mem_of_getElem? (i := 141) (by decide +kernel)
theorem mw_142 : Cond.initialized "java/lang/Math" ∈ wsL_law := List.mem_of_getElem? (i := 142) (by decide +kernel)
theorem mw_143 : Cond.code Lib.Math.min.name Lib.Math.min.code 2 (some .int) ∈ wsL_law := List.mem_of_getElem? (i := 143) (by decide +kernel)
theorem dX5_read_8 : decode cX5_read 8 = .ok (.putfield 35, 3) := by decide +kernel
theorem dX5_read_11 : decode cX5_read 11 = .ok (.aload_n 0, 1) := by decide +kernel
theorem dX5_read_12 : decode cX5_read 12 = .ok (.iconst 0, 1) := by decide +kernel
theorem dX5_read_13 : decode cX5_read 13 = .ok (.putfield 26, 3) := by decide +kernel
theorem dX5_read_16 : decode cX5_read 16 = .ok (.aload_n 0, 1) := by decide +kernel
theorem dX5_read_17 : decode cX5_read 17 = .ok (.getfield 12, 3) := by decide +kernel
theorem mw_47 : Cond.fieldLink RX5 12 "ThatchNext$Reader" "world" "LThatchNext$World;" ∈ wsL_law := List.mem_of_getElem? (i := 47) (by decide +kernel)
theorem dX5_read_20 : decode cX5_read 20 = .ok (.invokevirtual 38, 3) := by decide +kernel
theorem hd_yX6_clear : HD yX6_clear RX6 0 := by decide +kernel
theorem mw_148 : Cond.methodLink RX5 38 yX6_clear ∈ wsL_law := List.mem_of_getElem? (i := 148) (by decide +kernel)
theorem mw_149 : Cond.instanceMethod yX6_clear ∈ wsL_law := List.mem_of_getElem? (i := 149) (by decide +kernel)
theorem mw_150 : Cond.selects RX6 yX6_clear yX6_clear ∈ wsL_law := List.mem_of_getElem? (i := 150) (by decide +kernel)
theorem mw_151 : Cond.code yX6_clear cX6_clear 2 none ∈ wsL_law := List.mem_of_getElem? (i := 151) (by decide +kernel)
theorem dX5_read_23 : decode cX5_read 23 = .ok (.aload_n 0, 1) := by decide +kernel
theorem dX5_read_24 : decode cX5_read 24 = .ok (.iconst 0, 1) := by decide +kernel
theorem dX5_read_25 : decode cX5_read 25 = .ok (.putfield 41, 3) := by decide +kernel
theorem mw_145 : Cond.fieldLink RX5 41 "ThatchNext$Reader" "fault" "I" ∈ wsL_law := List.mem_of_getElem? (i := 145) (by decide +kernel)
theorem dX5_read_28 : decode cX5_read 28 = .ok (.aload_n 0, 1) := by decide +kernel
theorem dX5_read_29 : decode cX5_read 29 = .ok (.iconst (-1), 1) := by decide +kernel
theorem dX5_read_30 : decode cX5_read 30 = .ok (.putfield 18, 3) := by decide +kernel
theorem mw_48 : Cond.fieldLink RX5 18 "ThatchNext$Reader" "faultPlace" "I" ∈ wsL_law := List.mem_of_getElem? (i := 48) (by decide +kernel)
theorem dX5_read_33 : decode cX5_read 33 = .ok (.aload_n 0, 1) := by decide +kernel
theorem dX5_read_34 : decode cX5_read 34 = .ok (.iconst 0, 1) := by decide +kernel
theorem dX5_read_35 : decode cX5_read 35 = .ok (.putfield 44, 3) := by decide +kernel
theorem dX5_read_38 : decode cX5_read 38 = .ok (.aload_n 0, 1) := by decide +kernel
theorem dX5_read_39 : decode cX5_read 39 = .ok (.invokevirtual 47, 3) := by decide +kernel
theorem hd_yX5_advance : HD yX5_advance RX5 0 := by decide +kernel
theorem mw_159 : Cond.methodLink RX5 47 yX5_advance ∈ wsL_law := List.mem_of_getElem? (i := 159) (by decide +kernel)
theorem mw_160 : Cond.instanceMethod yX5_advance ∈ wsL_law := List.mem_of_getElem? (i := 160) (by decide +kernel)
theorem mw_161 : Cond.selects RX5 yX5_advance yX5_advance ∈ wsL_law := List.mem_of_getElem? (i := 161) (by decide +kernel)
theorem mw_15 : Cond.initialized RX5 ∈ wsL_law := List.mem_of_getElem? (i := 15) (by decide +kernel)
theorem mw_162 : Cond.code yX5_advance cX5_advance 1 none ∈ wsL_law := List.mem_of_getElem? (i := 162) (by decide +kernel)
theorem dX5_read_42 : decode cX5_read 42 = .ok (.iconst 0, 1) := by decide +kernel
theorem dX5_read_43 : decode cX5_read 43 = .ok (.istore_n 2, 1) := by decide +kernel
theorem dX5_read_44 : decode cX5_read 44 = .ok (.iload_n 2, 1) := by decide +kernel
theorem dX5_read_45 : decode cX5_read 45 = .ok (.aload_n 0, 1) := by decide +kernel
theorem dX5_read_46 : decode cX5_read 46 = .ok (.getfield 35, 3) := by decide +kernel
theorem dX5_read_49 : decode cX5_read 49 = .ok (.if_icmp .gt 28, 3) := by decide +kernel
theorem dX5_read_52 : decode cX5_read 52 = .ok (.aload_n 0, 1) := by decide +kernel
theorem dX5_read_53 : decode cX5_read 53 = .ok (.getfield 41, 3) := by decide +kernel
theorem dX5_read_56 : decode cX5_read 56 = .ok (.ifCond .ne 21, 3) := by decide +kernel
theorem dX5_read_59 : decode cX5_read 59 = .ok (.aload_n 0, 1) := by decide +kernel
theorem dX5_read_60 : decode cX5_read 60 = .ok (.getfield 50, 3) := by decide +kernel
theorem dX5_read_63 : decode cX5_read 63 = .ok (.iconst 1, 1) := by decide +kernel
theorem dX5_read_64 : decode cX5_read 64 = .ok (.if_icmp .eq 13, 3) := by decide +kernel
theorem dX5_read_77 : decode cX5_read 77 = .ok (.return_, 1) := by decide +kernel
theorem dX3_begin_0 : decode cX3_begin 0 = .ok (.aload_n 0, 1) := by decide +kernel
theorem dX3_begin_1 : decode cX3_begin 1 = .ok (.iconst 1, 1) := by decide +kernel
theorem dX3_begin_2 : decode cX3_begin 2 = .ok (.putfield 15, 3) := by decide +kernel
theorem mw_1133 : Cond.fieldLink RX3 15 "ThatchNext$Numbers" "isThere" "Z" ∈ wsL_law := List.mem_of_getElem? (i := 1133) (by decide +kernel)
theorem dX3_begin_5 : decode cX3_begin 5 = .ok (.aload_n 0, 1) := by decide +kernel
theorem dX3_begin_6 : decode cX3_begin 6 = .ok (.iload_n 1, 1) := by decide +kernel
theorem dX3_begin_7 : decode cX3_begin 7 = .ok (.putfield 19, 3) := by decide +kernel
theorem mw_1134 : Cond.fieldLink RX3 19 "ThatchNext$Numbers" "sort" "I" ∈ wsL_law := List.mem_of_getElem? (i := 1134) (by decide +kernel)
theorem dX3_begin_10 : decode cX3_begin 10 = .ok (.aload_n 0, 1) := by decide +kernel
theorem dX3_begin_11 : decode cX3_begin 11 = .ok (.iload_n 2, 1) := by decide +kernel
theorem dX3_begin_12 : decode cX3_begin 12 = .ok (.putfield 23, 3) := by decide +kernel
theorem mw_990 : Cond.fieldLink RX3 23 "ThatchNext$Numbers" "size" "I" ∈ wsL_law := List.mem_of_getElem? (i := 990) (by decide +kernel)
theorem dX3_begin_15 : decode cX3_begin 15 = .ok (.iconst 0, 1) := by decide +kernel
theorem dX3_begin_16 : decode cX3_begin 16 = .ok (.istore_n 3, 1) := by decide +kernel
theorem dX3_begin_17 : decode cX3_begin 17 = .ok (.iload_n 3, 1) := by decide +kernel
theorem dX3_begin_18 : decode cX3_begin 18 = .ok (.bipush 40, 2) := by decide +kernel
theorem dX3_begin_20 : decode cX3_begin 20 = .ok (.if_icmp .ge 16, 3) := by decide +kernel
theorem dX3_begin_36 : decode cX3_begin 36 = .ok (.return_, 1) := by decide +kernel
theorem dX3_begin_23 : decode cX3_begin 23 = .ok (.aload_n 0, 1) := by decide +kernel
theorem dX3_begin_24 : decode cX3_begin 24 = .ok (.getfield 9, 3) := by decide +kernel
theorem mw_86 : Cond.fieldLink RX3 9 "ThatchNext$Numbers" "values" "[J" ∈ wsL_law := List.mem_of_getElem? (i := 86) (by decide +kernel)
theorem dX3_begin_27 : decode cX3_begin 27 = .ok (.iload_n 3, 1) := by decide +kernel
theorem dX3_begin_28 : decode cX3_begin 28 = .ok (.lconst 0, 1) := by decide +kernel
theorem dX3_begin_29 : decode cX3_begin 29 = .ok (.lastore, 1) := by decide +kernel
theorem dX3_begin_30 : decode cX3_begin 30 = .ok (.iinc 3 1, 3) := by decide +kernel
theorem dX3_begin_33 : decode cX3_begin 33 = .ok (.goto (-16), 3) := by decide +kernel
set_option maxHeartbeats 4000000 in
set_option maxRecDepth 100000 in
theorem c_T_isRow (l : Launch) (D : va_G) (k : Nat → ClassId) (r : Int32) : Met l yX7_isRow (Cond.code yX7_isRow cX7_isRow 1 (some .boolean) :: wsL_law) ({ frames := 0, cells := 0, slots := 0, locals := 0 } : Room) (va_Pc [.int r] (pr D k [])) (vp_Si (fun rr => rr = if 0 ≤ r.toInt ∧ r.toInt ≤ 3 then 1 else 0)) 0 0 (fun _ => False) := by
  refine Met.ofW (cc := cX7_isRow) (maxL := 1) (ret := (some .boolean)) (by decide) rfl ?_
  intro p e s m args below meth c s₁ B hml hv
  obtain ⟨rfl, hP, hK⟩ := hv
  have hx := B.exec
  have hb := B.bytes
  have hr := B.returns
  have hts : ∀ w ∈ wsL_law, w.before _ s = true := fun w h => atoms_spec (ws := Cond.code yX7_isRow cX7_isRow 1 (some .boolean) :: wsL_law) B.pre w (List.mem_cons_of_mem _ h)
  have hown : s.vm.findClass RX7 = some m.cls := findClass_of_methodNamed B.named
  have hlocks := B.notSynchronized
  have hP : va_P D vwCl [] s.heap := hP
  have hl := lv_entry ([.int r]) (n := 1) (Nat.le_of_ble_eq_true rfl)
  rw [lg_entry_eq]
  generalize (lg_sl ([.int r]) ++ List.replicate (1 - (lg_sl ([.int r])).length) Slot.unset).toArray = ls at hl ⊢
  have hl : lv_has ls 1 [(0, .int r)] := hl
  refine lv_iload_n hx hb dX7_isRow_0 rfl (lv_at hl 0 rfl) ?_
  refine lv_if_lt (tgt := 13) hx hb dX7_isRow_1 (by decide) (fun c_1 => ?_) (fun c_1 => ?_)
  · have c_1 : r.toInt < 0 := ti_lt c_1
    refine lv_iconst (v := 0) hx hb dX7_isRow_13 (by decide) ?_
    exact W.zret (v := 0) hx hb hr rfl (fun t ht hW => ⟨0, rfl, (by (repeat' split) <;> first | rfl | (exfalso; omega)), ht⟩) (fun q h => by cases h) dX7_isRow_14
  · have c_1 : 0 ≤ r.toInt := ti_nlt c_1
    refine lv_iload_n hx hb dX7_isRow_4 rfl (lv_at hl 0 rfl) ?_
    refine lv_iconst (v := 4) hx hb dX7_isRow_5 (by decide) ?_
    refine lv_icmp_ge (tgt := 13) hx hb dX7_isRow_6 (by decide) (fun c_2 => ?_) (fun c_2 => ?_)
    · have c_2 : 4 ≤ r.toInt := ti_le c_2
      refine lv_iconst (v := 0) hx hb dX7_isRow_13 (by decide) ?_
      exact W.zret (v := 0) hx hb hr rfl (fun t ht hW => ⟨0, rfl, (by (repeat' split) <;> first | rfl | (exfalso; omega)), ht⟩) (fun q h => by cases h) dX7_isRow_14
    · have c_2 : r.toInt < 4 := ti_nle c_2
      refine lv_iconst (v := 1) hx hb dX7_isRow_9 (by decide) ?_
      refine lv_goto (tgt := 14) hx hb dX7_isRow_10 (by decide) ?_
      exact W.zret (v := 1) hx hb hr rfl (fun t ht hW => ⟨1, rfl, (by (repeat' split) <;> first | rfl | (exfalso; omega)), ht⟩) (fun q h => by cases h) dX7_isRow_14
set_option maxHeartbeats 4000000 in
set_option maxRecDepth 100000 in
theorem c_T_isHarmSpan (l : Launch) (D : va_G) (k : Nat → ClassId) (r : Int32) : Met l yX7_isHarmSpan (Cond.code yX7_isHarmSpan cX7_isHarmSpan 1 (some .boolean) :: wsL_law) ({ frames := 0, cells := 0, slots := 0, locals := 0 } : Room) (va_Pc [.int r] (pr D k [])) (vp_Si (fun rr => rr = if 1 ≤ r.toInt ∧ r.toInt ≤ 12 then 1 else 0)) 0 0 (fun _ => False) := by
  refine Met.ofW (cc := cX7_isHarmSpan) (maxL := 1) (ret := (some .boolean)) (by decide) rfl ?_
  intro p e s m args below meth c s₁ B hml hv
  obtain ⟨rfl, hP, hK⟩ := hv
  have hx := B.exec
  have hb := B.bytes
  have hr := B.returns
  have hts : ∀ w ∈ wsL_law, w.before _ s = true := fun w h => atoms_spec (ws := Cond.code yX7_isHarmSpan cX7_isHarmSpan 1 (some .boolean) :: wsL_law) B.pre w (List.mem_cons_of_mem _ h)
  have hown : s.vm.findClass RX7 = some m.cls := findClass_of_methodNamed B.named
  have hlocks := B.notSynchronized
  have hP : va_P D vwCl [] s.heap := hP
  have hl := lv_entry ([.int r]) (n := 1) (Nat.le_of_ble_eq_true rfl)
  rw [lg_entry_eq]
  generalize (lg_sl ([.int r]) ++ List.replicate (1 - (lg_sl ([.int r])).length) Slot.unset).toArray = ls at hl ⊢
  have hl : lv_has ls 1 [(0, .int r)] := hl
  refine lv_iload_n hx hb dX7_isHarmSpan_0 rfl (lv_at hl 0 rfl) ?_
  refine lv_iconst (v := 1) hx hb dX7_isHarmSpan_1 (by decide) ?_
  refine lv_icmp_lt (tgt := 15) hx hb dX7_isHarmSpan_2 (by decide) (fun c_1 => ?_) (fun c_1 => ?_)
  · have c_1 : r.toInt < 1 := ti_lt c_1
    refine lv_iconst (v := 0) hx hb dX7_isHarmSpan_15 (by decide) ?_
    exact W.zret (v := 0) hx hb hr rfl (fun t ht hW => ⟨0, rfl, (by (repeat' split) <;> first | rfl | (exfalso; omega)), ht⟩) (fun q h => by cases h) dX7_isHarmSpan_16
  · have c_1 : 1 ≤ r.toInt := ti_nlt c_1
    refine lv_iload_n hx hb dX7_isHarmSpan_5 rfl (lv_at hl 0 rfl) ?_
    refine lv_bipush (v := 12) hx hb dX7_isHarmSpan_6 (by decide) ?_
    refine lv_icmp_gt (tgt := 15) hx hb dX7_isHarmSpan_8 (by decide) (fun c_2 => ?_) (fun c_2 => ?_)
    · have c_2 : 12 < r.toInt := ti_lt c_2
      refine lv_iconst (v := 0) hx hb dX7_isHarmSpan_15 (by decide) ?_
      exact W.zret (v := 0) hx hb hr rfl (fun t ht hW => ⟨0, rfl, (by (repeat' split) <;> first | rfl | (exfalso; omega)), ht⟩) (fun q h => by cases h) dX7_isHarmSpan_16
    · have c_2 : r.toInt ≤ 12 := ti_nlt c_2
      refine lv_iconst (v := 1) hx hb dX7_isHarmSpan_11 (by decide) ?_
      refine lv_goto (tgt := 16) hx hb dX7_isHarmSpan_12 (by decide) ?_
      exact W.zret (v := 1) hx hb hr rfl (fun t ht hW => ⟨1, rfl, (by (repeat' split) <;> first | rfl | (exfalso; omega)), ht⟩) (fun q h => by cases h) dX7_isHarmSpan_16
set_option maxHeartbeats 4000000 in
set_option maxRecDepth 100000 in
theorem c_T_thatchRefusal (l : Launch) (D : va_G) (k : Nat → ClassId) (t : Nat → Nat) (n : Nat → Nat) (v : Nat → Nat) (d : Nat → Nat) (r : Int32) : Met l yX7_thatchRefusal (Cond.code yX7_thatchRefusal cX7_thatchRefusal 2 (some .int) :: wsL_law) ({ frames := 1, cells := 0, slots := 0, locals := 60 } : Room) (va_Pc [.ref (t 0), .int r] (pr D k [((t 0), .inr (6, [.ref (t 1), .int 0, .ref (n 0), .ref (v 0), .ref (t 2), .ref (t 3), .ref (t 4), .ref (t 5), .ref (d 0), .ref (t 6), .ref (t 7)])), ((n 0), .inr (5, [.int 0, .int 0, .int 3, .int 8, .int 4, .int 4, .int 0, .int 0, .int 0, .int 0, .int 0, .ref (n 1), .ref (n 2), .ref (n 3), .ref (n 4), .ref (n 5)]))])) (vp_Si (fun rr => rr = (-2))) 0 0 (fun _ => False) := by
  refine Met.ofW (cc := cX7_thatchRefusal) (maxL := 2) (ret := (some .int)) (by decide) rfl ?_
  intro p e s m args below meth c s₁ B hml hv
  obtain ⟨rfl, hP, hK⟩ := hv
  have hx := B.exec
  have hb := B.bytes
  have hr := B.returns
  have hts : ∀ w ∈ wsL_law, w.before _ s = true := fun w h => atoms_spec (ws := Cond.code yX7_thatchRefusal cX7_thatchRefusal 2 (some .int) :: wsL_law) B.pre w (List.mem_cons_of_mem _ h)
  have hown : s.vm.findClass RX7 = some m.cls := findClass_of_methodNamed B.named
  have hlocks := B.notSynchronized
  have hP : va_P D vwCl [((t 0), .inr (6, [.ref (t 1), .int 0, .ref (n 0), .ref (v 0), .ref (t 2), .ref (t 3), .ref (t 4), .ref (t 5), .ref (d 0), .ref (t 6), .ref (t 7)])), ((n 0), .inr (5, [.int 0, .int 0, .int 3, .int 8, .int 4, .int 4, .int 0, .int 0, .int 0, .int 0, .int 0, .ref (n 1), .ref (n 2), .ref (n 3), .ref (n 4), .ref (n 5)]))] s.heap := hP
  have hl := lv_entry ([.ref (t 0), .int r]) (n := 2) (Nat.le_of_ble_eq_true rfl)
  rw [lg_entry_eq]
  generalize (lg_sl ([.ref (t 0), .int r]) ++ List.replicate (2 - (lg_sl ([.ref (t 0), .int r])).length) Slot.unset).toArray = ls at hl ⊢
  have hl : lv_has ls 2 [(0, .ref (t 0)), (1, .int r)] := hl
  refine lv_aload_n hx hb dX7_thatchRefusal_0 rfl (lv_at hl 0 rfl) ?_
  refine va_get (D := D) (ci := 6) (v := .ref (n 0)) (C := RX7) (T := TX7) (N := 11) hx hb hts inlX7 hown hK hP 0 rfl rfl 2 (by decide) (hts _ mw_20) (fun _ h9 => h9) rfl dX7_thatchRefusal_1 ?_
  refine lv_iload_n hx hb dX7_thatchRefusal_4 rfl (lv_at hl 1 rfl) ?_
  refine kV_i (q0 := 0) (As := [.int r]) (rest := []) (cs := [((n 0), .inr (5, [.int 0, .int 0, .int 3, .int 8, .int 4, .int 4, .int 0, .int 0, .int 0, .int 0, .int 0, .ref (n 1), .ref (n 2), .ref (n 3), .ref (n 4), .ref (n 5)]))]) ⟨hx, hb, hml, hown, hts⟩ (c_W_isRoof l D k n 0 r) (gV mw_364 mw_365 mw_366 mw_19 mw_367) hd_yX6_isRoof rfl rfl ⟨Nat.le_of_ble_eq_true rfl, Nat.le_of_ble_eq_true rfl⟩ hK (hP.sub (ws' := [((n 0), .inr (5, [.int 0, .int 0, .int 3, .int 8, .int 4, .int 4, .int 0, .int 0, .int 0, .int 0, .int 0, .ref (n 1), .ref (n 2), .ref (n 3), .ref (n 4), .ref (n 5)]))]) [1] rfl) rfl rfl rfl rfl hl.1 rfl (Nat.le_of_ble_eq_true rfl) dX7_thatchRefusal_5 ⟨Nat.le_of_ble_eq_true rfl, Nat.le_of_ble_eq_true rfl⟩ (fun r_1 hr_1 => ?_)
  obtain rfl : r_1 = 0 := hr_1
  refine lv_if_ne (tgt := 14) hx hb dX7_thatchRefusal_8 (by decide) (fun c9 => absurd c9 (by decide)) (fun _ => ?_)
  refine lv_bipush (v := (-2)) hx hb dX7_thatchRefusal_11 (by decide) ?_
  exact W.iret (v := (-2)) hx hb hr (fun t ht hW => ⟨(-2), rfl, rfl, ht⟩) (fun q h => by cases h) dX7_thatchRefusal_13
set_option maxHeartbeats 4000000 in
set_option maxRecDepth 100000 in
theorem c_T_nextDraw (l : Launch) (D : va_G) (k : Nat → ClassId) (x : Int32) : Met l yX7_nextDraw (Cond.code yX7_nextDraw cX7_nextDraw 1 (some .int) :: wsL_law) ({ frames := 0, cells := 0, slots := 0, locals := 0 } : Room) (va_Pc [.int x] (pr D k [])) (vp_Si (fun rr => rr = (1103515245 * x + 12345))) 0 0 (fun _ => False) := by
  refine Met.ofW (cc := cX7_nextDraw) (maxL := 1) (ret := (some .int)) (by decide) rfl ?_
  intro p e s m args below meth c s₁ B hml hv
  obtain ⟨rfl, hP, hK⟩ := hv
  have hx := B.exec
  have hb := B.bytes
  have hr := B.returns
  have hts : ∀ w ∈ wsL_law, w.before _ s = true := fun w h => atoms_spec (ws := Cond.code yX7_nextDraw cX7_nextDraw 1 (some .int) :: wsL_law) B.pre w (List.mem_cons_of_mem _ h)
  have hown : s.vm.findClass RX7 = some m.cls := findClass_of_methodNamed B.named
  have hlocks := B.notSynchronized
  have hP : va_P D vwCl [] s.heap := hP
  have hl := lv_entry ([.int x]) (n := 1) (Nat.le_of_ble_eq_true rfl)
  rw [lg_entry_eq]
  generalize (lg_sl ([.int x]) ++ List.replicate (1 - (lg_sl ([.int x])).length) Slot.unset).toArray = ls at hl ⊢
  have hl : lv_has ls 1 [(0, .int x)] := hl
  refine lv_ldcw (own := RX7) (index := 366) (v := 1103515245) hx hb hown (hts _ mw_626) dX7_nextDraw_0 ?_
  refine lv_iload_n hx hb dX7_nextDraw_3 rfl (lv_at hl 0 rfl) ?_
  refine lv_imul hx hb dX7_nextDraw_4 ?_
  refine lv_topi (fun z_1 ez_1 => ?_)
  refine lv_sipush (v := 12345) hx hb dX7_nextDraw_5 (by decide) ?_
  refine lv_iadd hx hb dX7_nextDraw_8 ?_
  refine lv_topi (fun z_2 ez_2 => ?_)
  exact W.iret (v := z_2) hx hb hr (fun t ht hW => ⟨z_2, rfl, (by rw [ez_2, ez_1]), ht⟩) (fun q h => by cases h) dX7_nextDraw_9
set_option maxHeartbeats 4000000 in
set_option maxRecDepth 100000 in
theorem c_T_power0 (l : Launch) (D : va_G) (k : Nat → ClassId) (x : Int32) : Met l yX7_power (Cond.code yX7_power cX7_power 5 (some .long) :: wsL_law) ({ frames := 0, cells := 0, slots := 0, locals := 0 } : Room) (va_Pc [.int x, .int 0] (pr D k [])) (vp_Sl (fun rr => rr = 1)) 0 0 (fun _ => False) := by
  refine Met.ofW (cc := cX7_power) (maxL := 5) (ret := (some .long)) (by decide) rfl ?_
  intro p e s m args below meth c s₁ B hml hv
  obtain ⟨rfl, hP, hK⟩ := hv
  have hx := B.exec
  have hb := B.bytes
  have hr := B.returns
  have hts : ∀ w ∈ wsL_law, w.before _ s = true := fun w h => atoms_spec (ws := Cond.code yX7_power cX7_power 5 (some .long) :: wsL_law) B.pre w (List.mem_cons_of_mem _ h)
  have hown : s.vm.findClass RX7 = some m.cls := findClass_of_methodNamed B.named
  have hlocks := B.notSynchronized
  have hP : va_P D vwCl [] s.heap := hP
  have hl := lv_entry ([.int x, .int 0]) (n := 5) (Nat.le_of_ble_eq_true rfl)
  rw [lg_entry_eq]
  generalize (lg_sl ([.int x, .int 0]) ++ List.replicate (5 - (lg_sl ([.int x, .int 0])).length) Slot.unset).toArray = ls at hl ⊢
  have hl : lv_has ls 5 [(0, .int x), (1, .int 0)] := hl
  refine lv_lconst (v := 1) hx hb dX7_power_0 (by decide) ?_
  refine lv_lstore_n (lv' := [(2, .long 1), (0, .int x), (1, .int 0)]) hx hb dX7_power_1 rfl hl (by decide) rfl (fun ls hl => ?_)
  refine lv_iconst (v := 0) hx hb dX7_power_2 (by decide) ?_
  refine lv_istore (lv' := [(4, .int 0), (2, .long 1), (0, .int x), (1, .int 0)]) hx hb dX7_power_3 hl (by decide) rfl (fun ls hl => ?_)
  refine lv_iload hx hb dX7_power_5 (lv_at hl 0 rfl) ?_
  refine lv_iload_n hx hb dX7_power_7 rfl (lv_at hl 3 rfl) ?_
  refine lv_icmp_ge (tgt := 22) hx hb dX7_power_8 (by decide) (fun _ => ?_) (fun c9 => absurd c9 (by decide))
  refine lv_lload_n hx hb dX7_power_22 rfl (lv_at hl 1 rfl) ?_
  exact W.lret (v := 1) hx hb hr (fun t ht hW => ⟨1, rfl, rfl, ht⟩) (fun q h => by cases h) dX7_power_23
set_option maxHeartbeats 4000000 in
set_option maxRecDepth 100000 in
theorem c_T_oddsRefusal (l : Launch) (D : va_G) (k : Nat → ClassId) (t : Nat → Nat) (n : Nat → Nat) (v : Nat → Nat) (d : Nat → Nat) (a : Int32) : Met l yX7_oddsRefusal (Cond.code yX7_oddsRefusal cX7_oddsRefusal 2 (some .int) :: wsL_law) ({ frames := 1, cells := 0, slots := 0, locals := 60 } : Room) (va_Pc [.ref (t 0), .int a] (pr D k [((t 0), .inr (6, [.ref (t 1), .int 0, .ref (n 0), .ref (v 0), .ref (t 2), .ref (t 3), .ref (t 4), .ref (t 5), .ref (d 0), .ref (t 6), .ref (t 7)])), ((n 0), .inr (5, [.int 0, .int 0, .int 3, .int 8, .int 4, .int 4, .int 0, .int 0, .int 0, .int 0, .int 0, .ref (n 1), .ref (n 2), .ref (n 3), .ref (n 4), .ref (n 5)]))])) (vp_Si (fun rr => rr = if 1 ≤ a.toInt ∧ a.toInt ≤ 6 then 0 else (-3))) 0 0 (fun _ => False) := by
  refine Met.ofW (cc := cX7_oddsRefusal) (maxL := 2) (ret := (some .int)) (by decide) rfl ?_
  intro p e s m args below meth c s₁ B hml hv
  obtain ⟨rfl, hP, hK⟩ := hv
  have hx := B.exec
  have hb := B.bytes
  have hr := B.returns
  have hts : ∀ w ∈ wsL_law, w.before _ s = true := fun w h => atoms_spec (ws := Cond.code yX7_oddsRefusal cX7_oddsRefusal 2 (some .int) :: wsL_law) B.pre w (List.mem_cons_of_mem _ h)
  have hown : s.vm.findClass RX7 = some m.cls := findClass_of_methodNamed B.named
  have hlocks := B.notSynchronized
  have hP : va_P D vwCl [((t 0), .inr (6, [.ref (t 1), .int 0, .ref (n 0), .ref (v 0), .ref (t 2), .ref (t 3), .ref (t 4), .ref (t 5), .ref (d 0), .ref (t 6), .ref (t 7)])), ((n 0), .inr (5, [.int 0, .int 0, .int 3, .int 8, .int 4, .int 4, .int 0, .int 0, .int 0, .int 0, .int 0, .ref (n 1), .ref (n 2), .ref (n 3), .ref (n 4), .ref (n 5)]))] s.heap := hP
  have hl := lv_entry ([.ref (t 0), .int a]) (n := 2) (Nat.le_of_ble_eq_true rfl)
  rw [lg_entry_eq]
  generalize (lg_sl ([.ref (t 0), .int a]) ++ List.replicate (2 - (lg_sl ([.ref (t 0), .int a])).length) Slot.unset).toArray = ls at hl ⊢
  have hl : lv_has ls 2 [(0, .ref (t 0)), (1, .int a)] := hl
  refine lv_iload_n hx hb dX7_oddsRefusal_0 rfl (lv_at hl 1 rfl) ?_
  refine lv_iconst (v := 1) hx hb dX7_oddsRefusal_1 (by decide) ?_
  refine lv_icmp_lt (tgt := 11) hx hb dX7_oddsRefusal_2 (by decide) (fun c_1 => ?_) (fun c_1 => ?_)
  · have c_1 : a.toInt < 1 := ti_lt c_1
    refine lv_bipush (v := (-3)) hx hb dX7_oddsRefusal_11 (by decide) ?_
    exact W.iret (v := (-3)) hx hb hr (fun t ht hW => ⟨(-3), rfl, (by (repeat' split) <;> first | rfl | (exfalso; omega)), ht⟩) (fun q h => by cases h) dX7_oddsRefusal_13
  · have c_1 : 1 ≤ a.toInt := ti_nlt c_1
    refine lv_iload_n hx hb dX7_oddsRefusal_5 rfl (lv_at hl 1 rfl) ?_
    refine lv_bipush (v := 6) hx hb dX7_oddsRefusal_6 (by decide) ?_
    refine lv_icmp_le (tgt := 14) hx hb dX7_oddsRefusal_8 (by decide) (fun c_2 => ?_) (fun c_2 => ?_)
    · have c_2 : a.toInt ≤ 6 := ti_le c_2
      refine lv_aload_n hx hb dX7_oddsRefusal_14 rfl (lv_at hl 0 rfl) ?_
      refine va_get (D := D) (ci := 6) (v := .ref (n 0)) (C := RX7) (T := TX7) (N := 11) hx hb hts inlX7 hown hK hP 0 rfl rfl 2 (by decide) (hts _ mw_20) (fun _ h9 => h9) rfl dX7_oddsRefusal_15 ?_
      refine kV_i (q0 := 0) (As := []) (rest := []) (cs := [((n 0), .inr (5, [.int 0, .int 0, .int 3, .int 8, .int 4, .int 4, .int 0, .int 0, .int 0, .int 0, .int 0, .ref (n 1), .ref (n 2), .ref (n 3), .ref (n 4), .ref (n 5)]))]) ⟨hx, hb, hml, hown, hts⟩ (c_W_sparksInAll l D k n 0) (gV mw_886 mw_887 mw_888 mw_19 mw_889) hd_yX6_sparksInAll rfl rfl ⟨Nat.le_of_ble_eq_true rfl, Nat.le_of_ble_eq_true rfl⟩ hK (hP.sub (ws' := [((n 0), .inr (5, [.int 0, .int 0, .int 3, .int 8, .int 4, .int 4, .int 0, .int 0, .int 0, .int 0, .int 0, .ref (n 1), .ref (n 2), .ref (n 3), .ref (n 4), .ref (n 5)]))]) [1] rfl) rfl rfl rfl rfl hl.1 rfl (Nat.le_of_ble_eq_true rfl) dX7_oddsRefusal_18 ⟨Nat.le_of_ble_eq_true rfl, Nat.le_of_ble_eq_true rfl⟩ (fun r_3 hr_3 => ?_)
      obtain rfl : r_3 = 0 := hr_3
      refine lv_iconst (v := 3) hx hb dX7_oddsRefusal_21 (by decide) ?_
      refine lv_icmp_le (tgt := 30) hx hb dX7_oddsRefusal_22 (by decide) (fun _ => ?_) (fun c9 => absurd c9 (by decide))
      refine lv_iconst (v := 0) hx hb dX7_oddsRefusal_30 (by decide) ?_
      exact W.iret (v := 0) hx hb hr (fun t ht hW => ⟨0, rfl, (by (repeat' split) <;> first | rfl | (exfalso; omega)), ht⟩) (fun q h => by cases h) dX7_oddsRefusal_31
    · have c_2 : 6 < a.toInt := ti_nle c_2
      refine lv_bipush (v := (-3)) hx hb dX7_oddsRefusal_11 (by decide) ?_
      exact W.iret (v := (-3)) hx hb hr (fun t ht hW => ⟨(-3), rfl, (by (repeat' split) <;> first | rfl | (exfalso; omega)), ht⟩) (fun q h => by cases h) dX7_oddsRefusal_13
set_option maxHeartbeats 4000000 in
set_option maxRecDepth 100000 in
theorem c_T_pastRefusal (l : Launch) (D : va_G) (k : Nat → ClassId) (t : Nat → Nat) (n : Nat → Nat) (v : Nat → Nat) (d : Nat → Nat) : Met l yX7_pastRefusal (Cond.code yX7_pastRefusal cX7_pastRefusal 1 (some .int) :: wsL_law) ({ frames := 0, cells := 0, slots := 0, locals := 0 } : Room) (va_Pc [.ref (t 0)] (pr D k [((t 0), .inr (6, [.ref (t 1), .int 0, .ref (n 0), .ref (v 0), .ref (t 2), .ref (t 3), .ref (t 4), .ref (t 5), .ref (d 0), .ref (t 6), .ref (t 7)])), ((t 3), .inl (k 3, 2, .inl (fun _ => 0)))])) (vp_Si (fun rr => rr = (-5))) 0 0 (fun _ => False) := by
  refine Met.ofW (cc := cX7_pastRefusal) (maxL := 1) (ret := (some .int)) (by decide) rfl ?_
  intro p e s m args below meth c s₁ B hml hv
  obtain ⟨rfl, hP, hK⟩ := hv
  have hx := B.exec
  have hb := B.bytes
  have hr := B.returns
  have hts : ∀ w ∈ wsL_law, w.before _ s = true := fun w h => atoms_spec (ws := Cond.code yX7_pastRefusal cX7_pastRefusal 1 (some .int) :: wsL_law) B.pre w (List.mem_cons_of_mem _ h)
  have hown : s.vm.findClass RX7 = some m.cls := findClass_of_methodNamed B.named
  have hlocks := B.notSynchronized
  have hP : va_P D vwCl [((t 0), .inr (6, [.ref (t 1), .int 0, .ref (n 0), .ref (v 0), .ref (t 2), .ref (t 3), .ref (t 4), .ref (t 5), .ref (d 0), .ref (t 6), .ref (t 7)])), ((t 3), .inl (k 3, 2, .inl (fun _ => 0)))] s.heap := hP
  have hl := lv_entry ([.ref (t 0)]) (n := 1) (Nat.le_of_ble_eq_true rfl)
  rw [lg_entry_eq]
  generalize (lg_sl ([.ref (t 0)]) ++ List.replicate (1 - (lg_sl ([.ref (t 0)])).length) Slot.unset).toArray = ls at hl ⊢
  have hl : lv_has ls 1 [(0, .ref (t 0))] := hl
  refine lv_aload_n hx hb dX7_pastRefusal_0 rfl (lv_at hl 0 rfl) ?_
  refine va_get (D := D) (ci := 6) (v := .ref (t 3)) (C := RX7) (T := TX7) (N := 11) hx hb hts inlX7 hown hK hP 0 rfl rfl 5 (by decide) (hts _ mw_24) (fun _ h9 => h9) rfl dX7_pastRefusal_1 ?_
  refine lv_iconst (v := 0) hx hb dX7_pastRefusal_4 (by decide) ?_
  refine va_zald hx hb hK hP 1 3 rfl rfl (vp_in_c (by decide)) dX7_pastRefusal_5 ?_
  refine lv_ni (v := 0) (rfl) ?_
  refine lv_if_eq (tgt := 28) hx hb dX7_pastRefusal_6 (by decide) (fun _ => ?_) (fun c9 => absurd c9 (by decide))
  refine lv_bipush (v := (-5)) hx hb dX7_pastRefusal_28 (by decide) ?_
  exact W.iret (v := (-5)) hx hb hr (fun t ht hW => ⟨(-5), rfl, rfl, ht⟩) (fun q h => by cases h) dX7_pastRefusal_30
set_option maxHeartbeats 4000000 in
set_option maxRecDepth 100000 in
theorem c_T_findMousePaths (l : Launch) (D : va_G) (k : Nat → ClassId) (t : Nat → Nat) (n : Nat → Nat) (v : Nat → Nat) (d : Nat → Nat) (a : Int32) : Met l yX7_findMousePaths (Cond.code yX7_findMousePaths cX7_findMousePaths 6 (some .int) :: wsL_law) ({ frames := 0, cells := 0, slots := 0, locals := 0 } : Room) (va_Pc [.ref (t 0), .int a] (pr D k [((t 0), .inr (6, [.ref (t 1), .int 0, .ref (n 0), .ref (v 0), .ref (t 2), .ref (t 3), .ref (t 4), .ref (t 5), .ref (d 0), .ref (t 6), .ref (t 7)])), ((n 0), .inr (5, [.int 0, .int 0, .int 3, .int 8, .int 4, .int 4, .int 0, .int 0, .int 0, .int 0, .int 0, .ref (n 1), .ref (n 2), .ref (n 3), .ref (n 4), .ref (n 5)]))])) (vp_Si (fun rr => rr = 0)) 0 0 (fun _ => False) := by
  refine Met.ofW (cc := cX7_findMousePaths) (maxL := 6) (ret := (some .int)) (by decide) rfl ?_
  intro p e s m args below meth c s₁ B hml hv
  obtain ⟨rfl, hP, hK⟩ := hv
  have hx := B.exec
  have hb := B.bytes
  have hr := B.returns
  have hts : ∀ w ∈ wsL_law, w.before _ s = true := fun w h => atoms_spec (ws := Cond.code yX7_findMousePaths cX7_findMousePaths 6 (some .int) :: wsL_law) B.pre w (List.mem_cons_of_mem _ h)
  have hown : s.vm.findClass RX7 = some m.cls := findClass_of_methodNamed B.named
  have hlocks := B.notSynchronized
  have hP : va_P D vwCl [((t 0), .inr (6, [.ref (t 1), .int 0, .ref (n 0), .ref (v 0), .ref (t 2), .ref (t 3), .ref (t 4), .ref (t 5), .ref (d 0), .ref (t 6), .ref (t 7)])), ((n 0), .inr (5, [.int 0, .int 0, .int 3, .int 8, .int 4, .int 4, .int 0, .int 0, .int 0, .int 0, .int 0, .ref (n 1), .ref (n 2), .ref (n 3), .ref (n 4), .ref (n 5)]))] s.heap := hP
  have hl := lv_entry ([.ref (t 0), .int a]) (n := 6) (Nat.le_of_ble_eq_true rfl)
  rw [lg_entry_eq]
  generalize (lg_sl ([.ref (t 0), .int a]) ++ List.replicate (6 - (lg_sl ([.ref (t 0), .int a])).length) Slot.unset).toArray = ls at hl ⊢
  have hl : lv_has ls 6 [(0, .ref (t 0)), (1, .int a)] := hl
  refine lv_iconst (v := 0) hx hb dX7_findMousePaths_0 (by decide) ?_
  refine lv_istore_n (lv' := [(2, .int 0), (0, .ref (t 0)), (1, .int a)]) hx hb dX7_findMousePaths_1 rfl hl (by decide) rfl (fun ls hl => ?_)
  refine lv_iconst (v := 0) hx hb dX7_findMousePaths_2 (by decide) ?_
  refine lv_istore_n (lv' := [(3, .int 0), (2, .int 0), (0, .ref (t 0)), (1, .int a)]) hx hb dX7_findMousePaths_3 rfl hl (by decide) rfl (fun ls hl => ?_)
  refine lv_iload_n hx hb dX7_findMousePaths_4 rfl (lv_at hl 0 rfl) ?_
  refine lv_aload_n hx hb dX7_findMousePaths_5 rfl (lv_at hl 2 rfl) ?_
  refine va_get (D := D) (ci := 6) (v := .ref (n 0)) (C := RX7) (T := TX7) (N := 11) hx hb hts inlX7 hown hK hP 0 rfl rfl 2 (by decide) (hts _ mw_20) (fun _ h9 => h9) rfl dX7_findMousePaths_6 ?_
  refine va_get (D := D) (ci := 5) (v := .int 0) (C := RX6) (T := TX6) (N := 16) hx hb hts inlX6 hown hK hP 1 rfl rfl 0 (by decide) (hts _ mw_622) (fun _ h9 => h9) rfl dX7_findMousePaths_9 ?_
  refine lv_icmp_ge (tgt := 102) hx hb dX7_findMousePaths_12 (by decide) (fun _ => ?_) (fun c9 => absurd c9 (by decide))
  refine lv_iload_n hx hb dX7_findMousePaths_102 rfl (lv_at hl 1 rfl) ?_
  exact W.iret (v := 0) hx hb hr (fun t ht hW => ⟨0, rfl, rfl, ht⟩) (fun q h => by cases h) dX7_findMousePaths_103
set_option maxHeartbeats 4000000 in
set_option maxRecDepth 100000 in
theorem c_T_meetsAllPaths (l : Launch) (D : va_G) (k : Nat → ClassId) (t : Nat → Nat) (n : Nat → Nat) (v : Nat → Nat) (d : Nat → Nat) (a : Int32) : Met l yX7_meetsAllPaths (Cond.code yX7_meetsAllPaths cX7_meetsAllPaths 4 (some .boolean) :: wsL_law) ({ frames := 0, cells := 0, slots := 0, locals := 0 } : Room) (va_Pc [.ref (t 0), .int a, .int 0] (pr D k [((t 0), .inr (6, [.ref (t 1), .int 0, .ref (n 0), .ref (v 0), .ref (t 2), .ref (t 3), .ref (t 4), .ref (t 5), .ref (d 0), .ref (t 6), .ref (t 7)]))])) (vp_Si (fun rr => rr = 1)) 0 0 (fun _ => False) := by
  refine Met.ofW (cc := cX7_meetsAllPaths) (maxL := 4) (ret := (some .boolean)) (by decide) rfl ?_
  intro p e s m args below meth c s₁ B hml hv
  obtain ⟨rfl, hP, hK⟩ := hv
  have hx := B.exec
  have hb := B.bytes
  have hr := B.returns
  have hts : ∀ w ∈ wsL_law, w.before _ s = true := fun w h => atoms_spec (ws := Cond.code yX7_meetsAllPaths cX7_meetsAllPaths 4 (some .boolean) :: wsL_law) B.pre w (List.mem_cons_of_mem _ h)
  have hown : s.vm.findClass RX7 = some m.cls := findClass_of_methodNamed B.named
  have hlocks := B.notSynchronized
  have hP : va_P D vwCl [((t 0), .inr (6, [.ref (t 1), .int 0, .ref (n 0), .ref (v 0), .ref (t 2), .ref (t 3), .ref (t 4), .ref (t 5), .ref (d 0), .ref (t 6), .ref (t 7)]))] s.heap := hP
  have hl := lv_entry ([.ref (t 0), .int a, .int 0]) (n := 4) (Nat.le_of_ble_eq_true rfl)
  rw [lg_entry_eq]
  generalize (lg_sl ([.ref (t 0), .int a, .int 0]) ++ List.replicate (4 - (lg_sl ([.ref (t 0), .int a, .int 0])).length) Slot.unset).toArray = ls at hl ⊢
  have hl : lv_has ls 4 [(0, .ref (t 0)), (1, .int a), (2, .int 0)] := hl
  refine lv_iconst (v := 0) hx hb dX7_meetsAllPaths_0 (by decide) ?_
  refine lv_istore_n (lv' := [(3, .int 0), (0, .ref (t 0)), (1, .int a), (2, .int 0)]) hx hb dX7_meetsAllPaths_1 rfl hl (by decide) rfl (fun ls hl => ?_)
  refine lv_iload_n hx hb dX7_meetsAllPaths_2 rfl (lv_at hl 0 rfl) ?_
  refine lv_iload_n hx hb dX7_meetsAllPaths_3 rfl (lv_at hl 3 rfl) ?_
  refine lv_icmp_ge (tgt := 26) hx hb dX7_meetsAllPaths_4 (by decide) (fun _ => ?_) (fun c9 => absurd c9 (by decide))
  refine lv_iconst (v := 1) hx hb dX7_meetsAllPaths_26 (by decide) ?_
  exact W.zret (v := 1) hx hb hr rfl (fun t ht hW => ⟨1, rfl, rfl, ht⟩) (fun q h => by cases h) dX7_meetsAllPaths_27
set_option maxHeartbeats 4000000 in
set_option maxRecDepth 100000 in
theorem c_J_bitCount0 (l : Launch) (D : va_G) (k : Nat → ClassId) : Met l yJ6_bitCount_0f7a4 (Cond.code yJ6_bitCount_0f7a4 cJ6_bitCount_0f7a4 1 (some .int) :: wsL_law) ({ frames := 0, cells := 0, slots := 0, locals := 0 } : Room) (va_Pc [.int 0] (pr D k [])) (vp_Si (fun rr => rr = 0)) 0 0 (fun _ => False) := by
  refine Met.ofW (cc := cJ6_bitCount_0f7a4) (maxL := 1) (ret := (some .int)) (by decide) rfl ?_
  intro p e s m args below meth c s₁ B hml hv
  obtain ⟨rfl, hP, hK⟩ := hv
  have hx := B.exec
  have hb := B.bytes
  have hr := B.returns
  have hts : ∀ w ∈ wsL_law, w.before _ s = true := fun w h => atoms_spec (ws := Cond.code yJ6_bitCount_0f7a4 cJ6_bitCount_0f7a4 1 (some .int) :: wsL_law) B.pre w (List.mem_cons_of_mem _ h)
  have hown : s.vm.findClass RJ6 = some m.cls := findClass_of_methodNamed B.named
  have hlocks := B.notSynchronized
  have hP : va_P D vwCl [] s.heap := hP
  have hl := lv_entry ([.int 0]) (n := 1) (Nat.le_of_ble_eq_true rfl)
  rw [lg_entry_eq]
  generalize (lg_sl ([.int 0]) ++ List.replicate (1 - (lg_sl ([.int 0])).length) Slot.unset).toArray = ls at hl ⊢
  have hl : lv_has ls 1 [(0, .int 0)] := hl
  refine lv_iload_n hx hb dJ6_bitCount_0f7a4_0 rfl (lv_at hl 0 rfl) ?_
  refine lv_iload_n hx hb dJ6_bitCount_0f7a4_1 rfl (lv_at hl 0 rfl) ?_
  refine lv_iconst (v := 1) hx hb dJ6_bitCount_0f7a4_2 (by decide) ?_
  refine lv_iushr (v := 0) hx hb dJ6_bitCount_0f7a4_3 (by decide) ?_
  refine lv_ldcw (own := RJ6) (index := 265) (v := 1431655765) hx hb hown (hts _ mw_728) dJ6_bitCount_0f7a4_4 ?_
  refine lv_iand hx hb dJ6_bitCount_0f7a4_7 ?_
  refine lv_ni (v := 0) (by decide) ?_
  refine lv_isub hx hb dJ6_bitCount_0f7a4_8 ?_
  refine lv_ni (v := 0) (by decide) ?_
  refine lv_istore_n (lv' := [(0, .int 0)]) hx hb dJ6_bitCount_0f7a4_9 rfl hl (by decide) rfl (fun ls hl => ?_)
  refine lv_iload_n hx hb dJ6_bitCount_0f7a4_10 rfl (lv_at hl 0 rfl) ?_
  refine lv_ldcw (own := RJ6) (index := 266) (v := 858993459) hx hb hown (hts _ mw_729) dJ6_bitCount_0f7a4_11 ?_
  refine lv_iand hx hb dJ6_bitCount_0f7a4_14 ?_
  refine lv_ni (v := 0) (by decide) ?_
  refine lv_iload_n hx hb dJ6_bitCount_0f7a4_15 rfl (lv_at hl 0 rfl) ?_
  refine lv_iconst (v := 2) hx hb dJ6_bitCount_0f7a4_16 (by decide) ?_
  refine lv_iushr (v := 0) hx hb dJ6_bitCount_0f7a4_17 (by decide) ?_
  refine lv_ldcw (own := RJ6) (index := 266) (v := 858993459) hx hb hown (hts _ mw_729) dJ6_bitCount_0f7a4_18 ?_
  refine lv_iand hx hb dJ6_bitCount_0f7a4_21 ?_
  refine lv_ni (v := 0) (by decide) ?_
  refine lv_iadd hx hb dJ6_bitCount_0f7a4_22 ?_
  refine lv_ni (v := 0) (by decide) ?_
  refine lv_istore_n (lv' := [(0, .int 0)]) hx hb dJ6_bitCount_0f7a4_23 rfl hl (by decide) rfl (fun ls hl => ?_)
  refine lv_iload_n hx hb dJ6_bitCount_0f7a4_24 rfl (lv_at hl 0 rfl) ?_
  refine lv_iload_n hx hb dJ6_bitCount_0f7a4_25 rfl (lv_at hl 0 rfl) ?_
  refine lv_iconst (v := 4) hx hb dJ6_bitCount_0f7a4_26 (by decide) ?_
  refine lv_iushr (v := 0) hx hb dJ6_bitCount_0f7a4_27 (by decide) ?_
  refine lv_iadd hx hb dJ6_bitCount_0f7a4_28 ?_
  refine lv_ni (v := 0) (by decide) ?_
  refine lv_ldcw (own := RJ6) (index := 267) (v := 252645135) hx hb hown (hts _ mw_730) dJ6_bitCount_0f7a4_29 ?_
  refine lv_iand hx hb dJ6_bitCount_0f7a4_32 ?_
  refine lv_ni (v := 0) (by decide) ?_
  refine lv_istore_n (lv' := [(0, .int 0)]) hx hb dJ6_bitCount_0f7a4_33 rfl hl (by decide) rfl (fun ls hl => ?_)
  refine lv_iload_n hx hb dJ6_bitCount_0f7a4_34 rfl (lv_at hl 0 rfl) ?_
  refine lv_iload_n hx hb dJ6_bitCount_0f7a4_35 rfl (lv_at hl 0 rfl) ?_
  refine lv_bipush (v := 8) hx hb dJ6_bitCount_0f7a4_36 (by decide) ?_
  refine lv_iushr (v := 0) hx hb dJ6_bitCount_0f7a4_38 (by decide) ?_
  refine lv_iadd hx hb dJ6_bitCount_0f7a4_39 ?_
  refine lv_ni (v := 0) (by decide) ?_
  refine lv_istore_n (lv' := [(0, .int 0)]) hx hb dJ6_bitCount_0f7a4_40 rfl hl (by decide) rfl (fun ls hl => ?_)
  refine lv_iload_n hx hb dJ6_bitCount_0f7a4_41 rfl (lv_at hl 0 rfl) ?_
  refine lv_iload_n hx hb dJ6_bitCount_0f7a4_42 rfl (lv_at hl 0 rfl) ?_
  refine lv_bipush (v := 16) hx hb dJ6_bitCount_0f7a4_43 (by decide) ?_
  refine lv_iushr (v := 0) hx hb dJ6_bitCount_0f7a4_45 (by decide) ?_
  refine lv_iadd hx hb dJ6_bitCount_0f7a4_46 ?_
  refine lv_ni (v := 0) (by decide) ?_
  refine lv_istore_n (lv' := [(0, .int 0)]) hx hb dJ6_bitCount_0f7a4_47 rfl hl (by decide) rfl (fun ls hl => ?_)
  refine lv_iload_n hx hb dJ6_bitCount_0f7a4_48 rfl (lv_at hl 0 rfl) ?_
  refine lv_bipush (v := 63) hx hb dJ6_bitCount_0f7a4_49 (by decide) ?_
  refine lv_iand hx hb dJ6_bitCount_0f7a4_51 ?_
  refine lv_ni (v := 0) (by decide) ?_
  exact W.iret (v := 0) hx hb hr (fun t ht hW => ⟨0, rfl, rfl, ht⟩) (fun q h => by cases h) dJ6_bitCount_0f7a4_52
set_option maxHeartbeats 4000000 in
set_option maxRecDepth 100000 in
theorem c_T_harmedBy (l : Launch) (D : va_G) (k : Nat → ClassId) (t : Nat → Nat) (n : Nat → Nat) (v : Nat → Nat) (d : Nat → Nat) (sz : Nat) : Met l yX7_harmedBy (Cond.code yX7_harmedBy cX7_harmedBy 2 (some .int) :: wsL_law) ({ frames := 3, cells := 0, slots := 0, locals := 180 } : Room) (va_Pc [.ref (t 0), .int 0] (pu D k sz [((t 0), .inr (6, [.ref (t 1), .int 0, .ref (n 0), .ref (v 0), .ref (t 2), .ref (t 3), .ref (t 4), .ref (t 5), .ref (d 0), .ref (t 6), .ref (t 7)])), ((n 0), .inr (5, [.int 0, .int 0, .int 3, .int 8, .int 4, .int 4, .int 0, .int 0, .int 0, .int 0, .int 0, .ref (n 1), .ref (n 2), .ref (n 3), .ref (n 4), .ref (n 5)])), ((n 1), .inl (k 0, 10, .inl (fun _ => 0))), ((n 2), .inl (k 0, 10, .inl (fun _ => 0))), ((n 3), .inl (k 0, 60, .inl (fun _ => 0))), ((v 0), .inr (5, [.int 0, .int 0, .int 3, .int 8, .int 4, .int 4, .int 0, .int 0, .int 0, .int 0, .int 0, .ref (v 1), .ref (v 2), .ref (v 3), .ref (v 4), .ref (v 5)])), ((v 1), .inl (k 0, 10, .inl (fun _ => 0))), ((v 2), .inl (k 0, 10, .inl (fun _ => 0))), ((v 3), .inl (k 0, 60, .inl (fun _ => 0))), ((v 4), .inl (k 0, 10, .inl (fun _ => 0))), ((v 5), .inl (k 0, 60, .inl (fun _ => 0)))])) (va_Qi (fun rr (uu : Unit) => rr = 0) (qu D (va_A [((t 0), .inr (6, [.ref (t 1), .int 0, .ref (n 0), .ref (v 0), .ref (t 2), .ref (t 3), .ref (t 4), .ref (t 5), .ref (d 0), .ref (t 6), .ref (t 7)])), ((n 0), .inr (5, [.int 0, .int 0, .int 3, .int 8, .int 4, .int 4, .int 0, .int 0, .int 0, .int 0, .int 0, .ref (n 1), .ref (n 2), .ref (n 3), .ref (n 4), .ref (n 5)])), ((n 1), .inl (k 0, 10, .inl (fun _ => 0))), ((n 2), .inl (k 0, 10, .inl (fun _ => 0))), ((n 3), .inl (k 0, 60, .inl (fun _ => 0))), ((v 0), .inr (5, [.int 0, .int 0, .int 3, .int 8, .int 4, .int 4, .int 0, .int 0, .int 0, .int 0, .int 0, .ref (v 1), .ref (v 2), .ref (v 3), .ref (v 4), .ref (v 5)])), ((v 1), .inl (k 0, 10, .inl (fun _ => 0))), ((v 2), .inl (k 0, 10, .inl (fun _ => 0))), ((v 3), .inl (k 0, 60, .inl (fun _ => 0))), ((v 4), .inl (k 0, 10, .inl (fun _ => 0))), ((v 5), .inl (k 0, 60, .inl (fun _ => 0)))] sz) (fun uu : Unit => [])) (va_A [((t 0), .inr (6, [.ref (t 1), .int 0, .ref (n 0), .ref (v 0), .ref (t 2), .ref (t 3), .ref (t 4), .ref (t 5), .ref (d 0), .ref (t 6), .ref (t 7)])), ((n 0), .inr (5, [.int 0, .int 0, .int 3, .int 8, .int 4, .int 4, .int 0, .int 0, .int 0, .int 0, .int 0, .ref (n 1), .ref (n 2), .ref (n 3), .ref (n 4), .ref (n 5)])), ((n 1), .inl (k 0, 10, .inl (fun _ => 0))), ((n 2), .inl (k 0, 10, .inl (fun _ => 0))), ((n 3), .inl (k 0, 60, .inl (fun _ => 0))), ((v 0), .inr (5, [.int 0, .int 0, .int 3, .int 8, .int 4, .int 4, .int 0, .int 0, .int 0, .int 0, .int 0, .ref (v 1), .ref (v 2), .ref (v 3), .ref (v 4), .ref (v 5)])), ((v 1), .inl (k 0, 10, .inl (fun _ => 0))), ((v 2), .inl (k 0, 10, .inl (fun _ => 0))), ((v 3), .inl (k 0, 60, .inl (fun _ => 0))), ((v 4), .inl (k 0, 10, .inl (fun _ => 0))), ((v 5), .inl (k 0, 60, .inl (fun _ => 0)))] sz)) 0 0 (va_A [((t 0), .inr (6, [.ref (t 1), .int 0, .ref (n 0), .ref (v 0), .ref (t 2), .ref (t 3), .ref (t 4), .ref (t 5), .ref (d 0), .ref (t 6), .ref (t 7)])), ((n 0), .inr (5, [.int 0, .int 0, .int 3, .int 8, .int 4, .int 4, .int 0, .int 0, .int 0, .int 0, .int 0, .ref (n 1), .ref (n 2), .ref (n 3), .ref (n 4), .ref (n 5)])), ((n 1), .inl (k 0, 10, .inl (fun _ => 0))), ((n 2), .inl (k 0, 10, .inl (fun _ => 0))), ((n 3), .inl (k 0, 60, .inl (fun _ => 0))), ((v 0), .inr (5, [.int 0, .int 0, .int 3, .int 8, .int 4, .int 4, .int 0, .int 0, .int 0, .int 0, .int 0, .ref (v 1), .ref (v 2), .ref (v 3), .ref (v 4), .ref (v 5)])), ((v 1), .inl (k 0, 10, .inl (fun _ => 0))), ((v 2), .inl (k 0, 10, .inl (fun _ => 0))), ((v 3), .inl (k 0, 60, .inl (fun _ => 0))), ((v 4), .inl (k 0, 10, .inl (fun _ => 0))), ((v 5), .inl (k 0, 60, .inl (fun _ => 0)))] sz) := by
  refine Met.ofW (cc := cX7_harmedBy) (maxL := 2) (ret := (some .int)) (by decide) rfl ?_
  intro p e s m args below meth c s₁ B hml hv
  obtain ⟨rfl, hsz, hP, hK, hD0⟩ := hv
  have hx := B.exec
  have hb := B.bytes
  have hr := B.returns
  have hts : ∀ w ∈ wsL_law, w.before _ s = true := fun w h => atoms_spec (ws := Cond.code yX7_harmedBy cX7_harmedBy 2 (some .int) :: wsL_law) B.pre w (List.mem_cons_of_mem _ h)
  have hown : s.vm.findClass RX7 = some m.cls := findClass_of_methodNamed B.named
  have hlocks := B.notSynchronized
  subst hsz
  have hD := hD0.self (sz := s.heap.size)
  generalize hAe : va_A [((t 0), .inr (6, [.ref (t 1), .int 0, .ref (n 0), .ref (v 0), .ref (t 2), .ref (t 3), .ref (t 4), .ref (t 5), .ref (d 0), .ref (t 6), .ref (t 7)])), ((n 0), .inr (5, [.int 0, .int 0, .int 3, .int 8, .int 4, .int 4, .int 0, .int 0, .int 0, .int 0, .int 0, .ref (n 1), .ref (n 2), .ref (n 3), .ref (n 4), .ref (n 5)])), ((n 1), .inl (k 0, 10, .inl (fun _ => 0))), ((n 2), .inl (k 0, 10, .inl (fun _ => 0))), ((n 3), .inl (k 0, 60, .inl (fun _ => 0))), ((v 0), .inr (5, [.int 0, .int 0, .int 3, .int 8, .int 4, .int 4, .int 0, .int 0, .int 0, .int 0, .int 0, .ref (v 1), .ref (v 2), .ref (v 3), .ref (v 4), .ref (v 5)])), ((v 1), .inl (k 0, 10, .inl (fun _ => 0))), ((v 2), .inl (k 0, 10, .inl (fun _ => 0))), ((v 3), .inl (k 0, 60, .inl (fun _ => 0))), ((v 4), .inl (k 0, 10, .inl (fun _ => 0))), ((v 5), .inl (k 0, 60, .inl (fun _ => 0)))] s.heap.size = A at hD ⊢
  have hA : ∀ q : Nat, s.heap.size ≤ q → A q := fun q h => by rw [← hAe]; exact Or.inr h
  have hS : va_S A s.heap s.heap [] := va_S.rf
  have hP : va_P D vwCl [((t 0), .inr (6, [.ref (t 1), .int 0, .ref (n 0), .ref (v 0), .ref (t 2), .ref (t 3), .ref (t 4), .ref (t 5), .ref (d 0), .ref (t 6), .ref (t 7)])), ((n 0), .inr (5, [.int 0, .int 0, .int 3, .int 8, .int 4, .int 4, .int 0, .int 0, .int 0, .int 0, .int 0, .ref (n 1), .ref (n 2), .ref (n 3), .ref (n 4), .ref (n 5)])), ((n 1), .inl (k 0, 10, .inl (fun _ => 0))), ((n 2), .inl (k 0, 10, .inl (fun _ => 0))), ((n 3), .inl (k 0, 60, .inl (fun _ => 0))), ((v 0), .inr (5, [.int 0, .int 0, .int 3, .int 8, .int 4, .int 4, .int 0, .int 0, .int 0, .int 0, .int 0, .ref (v 1), .ref (v 2), .ref (v 3), .ref (v 4), .ref (v 5)])), ((v 1), .inl (k 0, 10, .inl (fun _ => 0))), ((v 2), .inl (k 0, 10, .inl (fun _ => 0))), ((v 3), .inl (k 0, 60, .inl (fun _ => 0))), ((v 4), .inl (k 0, 10, .inl (fun _ => 0))), ((v 5), .inl (k 0, 60, .inl (fun _ => 0)))] s.heap := hP
  have hl := lv_entry ([.ref (t 0), .int 0]) (n := 2) (Nat.le_of_ble_eq_true rfl)
  rw [lg_entry_eq]
  generalize (lg_sl ([.ref (t 0), .int 0]) ++ List.replicate (2 - (lg_sl ([.ref (t 0), .int 0])).length) Slot.unset).toArray = ls at hl ⊢
  have hl : lv_has ls 2 [(0, .ref (t 0)), (1, .int 0)] := hl
  refine lv_iload_n hx hb dX7_harmedBy_0 rfl (lv_at hl 1 rfl) ?_
  refine lv_aload_n hx hb dX7_harmedBy_1 rfl (lv_at hl 0 rfl) ?_
  refine va_get (D := D) (ci := 6) (v := .ref (n 0)) (C := RX7) (T := TX7) (N := 11) hx hb hts inlX7 hown hK hP 0 rfl rfl 2 (by decide) (hts _ mw_20) (fun _ h9 => h9) rfl dX7_harmedBy_2 ?_
  refine lv_aload_n hx hb dX7_harmedBy_5 rfl (lv_at hl 0 rfl) ?_
  refine va_get (D := D) (ci := 6) (v := .ref (v 0)) (C := RX7) (T := TX7) (N := 11) hx hb hts inlX7 hown hK hP 0 rfl rfl 3 (by decide) (hts _ mw_21) (fun _ h9 => h9) rfl dX7_harmedBy_6 ?_
  refine kV_ui (q0 := 0) (As := [.ref (v 0)]) (rest := [.int 0]) (wc := [((n 0), .inr (5, [.int 0, .int 0, .int 3, .int 8, .int 4, .int 4, .int 0, .int 0, .int 0, .int 0, .int 0, .ref (n 1), .ref (n 2), .ref (n 3), .ref (n 4), .ref (n 5)])), ((n 1), .inl (k 0, 10, .inl (fun _ => 0))), ((n 2), .inl (k 0, 10, .inl (fun _ => 0))), ((n 3), .inl (k 0, 60, .inl (fun _ => 0))), ((v 0), .inr (5, [.int 0, .int 0, .int 3, .int 8, .int 4, .int 4, .int 0, .int 0, .int 0, .int 0, .int 0, .ref (v 1), .ref (v 2), .ref (v 3), .ref (v 4), .ref (v 5)])), ((v 1), .inl (k 0, 10, .inl (fun _ => 0))), ((v 2), .inl (k 0, 10, .inl (fun _ => 0))), ((v 3), .inl (k 0, 60, .inl (fun _ => 0))), ((v 4), .inl (k 0, 10, .inl (fun _ => 0))), ((v 5), .inl (k 0, 60, .inl (fun _ => 0)))]) (wr := [((t 0), .inr (6, [.ref (t 1), .int 0, .ref (n 0), .ref (v 0), .ref (t 2), .ref (t 3), .ref (t 4), .ref (t 5), .ref (d 0), .ref (t 6), .ref (t 7)]))]) ⟨hx, hb, hml, hown, hts⟩ (c_W_drySkippers l D k n _ 0 0 _) (gV mw_714 mw_715 mw_716 mw_19 mw_717) hd_yX6_drySkippers rfl rfl ⟨Nat.le_of_ble_eq_true rfl, Nat.le_of_ble_eq_true rfl⟩ hK hP hD hS hA [1, 2, 3, 4, 5, 6, 7, 8, 9, 10] [0] rfl rfl (by decide) (by decide) (by decide) rfl rfl rfl rfl hl.1 rfl (Nat.le_of_ble_eq_true rfl) dX7_harmedBy_9 ⟨Nat.le_of_ble_eq_true rfl, Nat.le_of_ble_eq_true rfl⟩ (fun r_1 u_2 H locs hw hP hD hS => ?_)
  obtain ⟨v_3, rfl⟩ : ∃ z, z = u_2 := ⟨_, rfl⟩
  have hr_1 := hw
  have hP : va_P D vwCl [((t 0), .inr (6, [.ref (t 1), .int 0, .ref (n 0), .ref (v 0), .ref (t 2), .ref (t 3), .ref (t 4), .ref (t 5), .ref (d 0), .ref (t 6), .ref (t 7)])), ((n 0), .inr (5, [.int 0, .int 0, .int 3, .int 8, .int 4, .int 4, .int 0, .int 0, .int 0, .int 0, .int 0, .ref (n 1), .ref (n 2), .ref (n 3), .ref (n 4), .ref (n 5)])), ((n 1), .inl (k 0, 10, .inl (fun _ => 0))), ((n 2), .inl (k 0, 10, .inl (fun _ => 0))), ((n 3), .inl (k 0, 60, .inl (fun _ => 0))), ((v 0), .inr (5, [.int 0, .int v_3, .int 3, .int 8, .int 4, .int 4, .int 0, .int 0, .int 0, .int 0, .int 0, .ref (v 1), .ref (v 2), .ref (v 3), .ref (v 4), .ref (v 5)])), ((v 1), .inl (k 0, 10, .inl (fun _ => 0))), ((v 2), .inl (k 0, 10, .inl (fun _ => 0))), ((v 3), .inl (k 0, 60, .inl (fun _ => 0))), ((v 4), .inl (k 0, 10, .inl (fun _ => 0))), ((v 5), .inl (k 0, 60, .inl (fun _ => 0)))] H := hP
  have hD : va_D A [((t 0), .inr (6, [.ref (t 1), .int 0, .ref (n 0), .ref (v 0), .ref (t 2), .ref (t 3), .ref (t 4), .ref (t 5), .ref (d 0), .ref (t 6), .ref (t 7)])), ((n 0), .inr (5, [.int 0, .int 0, .int 3, .int 8, .int 4, .int 4, .int 0, .int 0, .int 0, .int 0, .int 0, .ref (n 1), .ref (n 2), .ref (n 3), .ref (n 4), .ref (n 5)])), ((n 1), .inl (k 0, 10, .inl (fun _ => 0))), ((n 2), .inl (k 0, 10, .inl (fun _ => 0))), ((n 3), .inl (k 0, 60, .inl (fun _ => 0))), ((v 0), .inr (5, [.int 0, .int v_3, .int 3, .int 8, .int 4, .int 4, .int 0, .int 0, .int 0, .int 0, .int 0, .ref (v 1), .ref (v 2), .ref (v 3), .ref (v 4), .ref (v 5)])), ((v 1), .inl (k 0, 10, .inl (fun _ => 0))), ((v 2), .inl (k 0, 10, .inl (fun _ => 0))), ((v 3), .inl (k 0, 60, .inl (fun _ => 0))), ((v 4), .inl (k 0, 10, .inl (fun _ => 0))), ((v 5), .inl (k 0, 60, .inl (fun _ => 0)))] := hD
  obtain rfl : r_1 = 0 := hr_1
  refine lv_iconst (v := (-1)) hx hb dX7_harmedBy_12 (by decide) ?_
  refine lv_ixor hx hb dX7_harmedBy_13 ?_
  refine lv_ni (v := (-1)) (by decide) ?_
  refine lv_iand hx hb dX7_harmedBy_14 ?_
  refine lv_ni (v := 0) (by decide) ?_
  have hP9 := hP.sub (ws' := []) [] rfl
  have hD9 := hD.sub (ws' := []) [] (by decide) rfl
  exact W.iret (v := 0) hx hb hr (fun t ht hW => ⟨⟨0, (), rfl, rfl, by rw [ht]; exact hP9, hD9⟩, hS.F ht⟩) hS.2.2 dX7_harmedBy_15
set_option maxHeartbeats 4000000 in
set_option maxRecDepth 100000 in
theorem c_R_takeInt0 (l : Launch) (D : va_G) (k : Nat → ClassId) (t : Nat → Nat) (u : Nat → Nat) (f : Nat → Int32) (x : Int32) (sz : Nat) : Met l yX5_takeInt (Cond.code yX5_takeInt cX5_takeInt 3 none :: wsL_law) ({ frames := 0, cells := 0, slots := 0, locals := 0 } : Room) (va_Pc [.ref (t 1), .int x] (pu D k sz [((t 1), .inr (4, [.ref (u 0), .int 0, .int (-1), .int 0, .ref (t 8), .int 0, .int 0, .int 0, .int 0, .int 0])), ((t 8), .inl (k 2, 900, .inl f))])) (va_Qv (fun uu : Nat → Int32 => True) (qu D (va_A [((t 1), .inr (4, [.ref (u 0), .int 0, .int (-1), .int 0, .ref (t 8), .int 0, .int 0, .int 0, .int 0, .int 0])), ((t 8), .inl (k 2, 900, .inl f))] sz) (fun uu : Nat → Int32 => [((t 1), .inr (4, [.ref (u 0), .int 0, .int (-1), .int 4, .ref (t 8), .int 0, .int 0, .int 0, .int 0, .int 0])), ((t 8), .inl (k 2, 900, .inl uu))])) (va_A [((t 1), .inr (4, [.ref (u 0), .int 0, .int (-1), .int 0, .ref (t 8), .int 0, .int 0, .int 0, .int 0, .int 0])), ((t 8), .inl (k 2, 900, .inl f))] sz)) 0 0 (va_A [((t 1), .inr (4, [.ref (u 0), .int 0, .int (-1), .int 0, .ref (t 8), .int 0, .int 0, .int 0, .int 0, .int 0])), ((t 8), .inl (k 2, 900, .inl f))] sz) := by
  refine Met.ofW (cc := cX5_takeInt) (maxL := 3) (ret := none) (by decide) rfl ?_
  intro p e s m args below meth c s₁ B hml hv
  obtain ⟨rfl, hsz, hP, hK, hD0⟩ := hv
  have hx := B.exec
  have hb := B.bytes
  have hr := B.returns
  have hts : ∀ w ∈ wsL_law, w.before _ s = true := fun w h => atoms_spec (ws := Cond.code yX5_takeInt cX5_takeInt 3 none :: wsL_law) B.pre w (List.mem_cons_of_mem _ h)
  have hown : s.vm.findClass RX5 = some m.cls := findClass_of_methodNamed B.named
  have hlocks := B.notSynchronized
  subst hsz
  have hD := hD0.self (sz := s.heap.size)
  generalize hAe : va_A [((t 1), .inr (4, [.ref (u 0), .int 0, .int (-1), .int 0, .ref (t 8), .int 0, .int 0, .int 0, .int 0, .int 0])), ((t 8), .inl (k 2, 900, .inl f))] s.heap.size = A at hD ⊢
  have hA : ∀ q : Nat, s.heap.size ≤ q → A q := fun q h => by rw [← hAe]; exact Or.inr h
  have hS : va_S A s.heap s.heap [] := va_S.rf
  have hP : va_P D vwCl [((t 1), .inr (4, [.ref (u 0), .int 0, .int (-1), .int 0, .ref (t 8), .int 0, .int 0, .int 0, .int 0, .int 0])), ((t 8), .inl (k 2, 900, .inl f))] s.heap := hP
  have hl := lv_entry ([.ref (t 1), .int x]) (n := 3) (Nat.le_of_ble_eq_true rfl)
  rw [lg_entry_eq]
  generalize (lg_sl ([.ref (t 1), .int x]) ++ List.replicate (3 - (lg_sl ([.ref (t 1), .int x])).length) Slot.unset).toArray = ls at hl ⊢
  have hl : lv_has ls 3 [(0, .ref (t 1)), (1, .int x)] := hl
  refine lv_bipush (v := 24) hx hb dX5_takeInt_0 (by decide) ?_
  refine lv_istore_n (lv' := [(2, .int 24), (0, .ref (t 1)), (1, .int x)]) hx hb dX5_takeInt_2 rfl hl (by decide) rfl (fun ls hl => ?_)
  refine lv_iload_n hx hb dX5_takeInt_3 rfl (lv_at hl 0 rfl) ?_
  refine lv_if_lt (tgt := 46) hx hb dX5_takeInt_4 (by decide) (fun c9 => absurd c9 (by decide)) (fun _ => ?_)
  refine lv_aload_n hx hb dX5_takeInt_7 rfl (lv_at hl 1 rfl) ?_
  refine va_get (D := D) (ci := 4) (v := .int 0) (C := RX5) (T := TX5) (N := 10) hx hb hts inlX5 hown hK hP 0 rfl rfl 3 (by decide) (hts _ mw_120) (fun _ h9 => h9) rfl dX5_takeInt_8 ?_
  refine lv_sipush (v := 900) hx hb dX5_takeInt_11 (by decide) ?_
  refine lv_icmp_ge (tgt := 46) hx hb dX5_takeInt_14 (by decide) (fun c9 => absurd c9 (by decide)) (fun _ => ?_)
  refine lv_aload_n hx hb dX5_takeInt_17 rfl (lv_at hl 1 rfl) ?_
  refine va_get (D := D) (ci := 4) (v := .ref (t 8)) (C := RX5) (T := TX5) (N := 10) hx hb hts inlX5 hown hK hP 0 rfl rfl 4 (by decide) (hts _ mw_50) (fun _ h9 => h9) rfl dX5_takeInt_18 ?_
  refine lv_aload_n hx hb dX5_takeInt_21 rfl (lv_at hl 1 rfl) ?_
  refine va_get (D := D) (ci := 4) (v := .int 0) (C := RX5) (T := TX5) (N := 10) hx hb hts inlX5 hown hK hP 0 rfl rfl 3 (by decide) (hts _ mw_120) (fun _ h9 => h9) rfl dX5_takeInt_22 ?_
  refine lv_iload_n hx hb dX5_takeInt_25 rfl (lv_at hl 2 rfl) ?_
  refine lv_iload_n hx hb dX5_takeInt_26 rfl (lv_at hl 0 rfl) ?_
  refine lv_iushr hx hb dX5_takeInt_27 rfl ?_
  refine lv_topi (fun z_1 ez_1 => ?_)
  refine lv_i2b hx hb dX5_takeInt_28 rfl ?_
  refine lv_topi (fun z_2 ez_2 => ?_)
  refine va_bast hx hb hK hP hD hS 1 2 rfl rfl (vp_in_c (by decide)) dX5_takeInt_29 (fun H locs hP hD hS => ?_)
  have hP : va_P D vwCl [((t 1), .inr (4, [.ref (u 0), .int 0, .int (-1), .int 0, .ref (t 8), .int 0, .int 0, .int 0, .int 0, .int 0])), ((t 8), .inl (k 2, 900, .inl (upd f (0 : Int32).toNatClampNeg (vp_nar .byte z_2))))] H := hP
  have hD : va_D A [((t 1), .inr (4, [.ref (u 0), .int 0, .int (-1), .int 0, .ref (t 8), .int 0, .int 0, .int 0, .int 0, .int 0])), ((t 8), .inl (k 2, 900, .inl (upd f (0 : Int32).toNatClampNeg (vp_nar .byte z_2))))] := hD
  generalize ef_3 : (upd f (0 : Int32).toNatClampNeg (vp_nar .byte z_2)) = f_3 at hP hD
  refine lv_aload_n hx hb dX5_takeInt_30 rfl (lv_at hl 1 rfl) ?_
  refine lv_dup hx hb dX5_takeInt_31 rfl ?_
  refine va_get (D := D) (ci := 4) (v := .int 0) (C := RX5) (T := TX5) (N := 10) hx hb hts inlX5 hown hK hP 0 rfl rfl 3 (by decide) (hts _ mw_120) (fun _ h9 => h9) rfl dX5_takeInt_32 ?_
  refine lv_iconst (v := 1) hx hb dX5_takeInt_35 (by decide) ?_
  refine lv_iadd hx hb dX5_takeInt_36 ?_
  refine lv_ni (v := 1) (by decide) ?_
  refine va_put (D := D) (ci := 4) (v := .int 1) (ty := .int) (C := RX5) (T := TX5) (N := 10) hx hb hts inlX5 tyX5 tyX5_ok nmX5 hown hK hP hD hS 0 rfl rfl 3 (by decide) (hts _ mw_120) (fun _ h9 => h9) rfl (by decide +kernel) rfl rfl (Nat.le_of_ble_eq_true rfl) dX5_takeInt_37 (fun H locs hP hD hS => ?_)
  have hP : va_P D vwCl [((t 1), .inr (4, [.ref (u 0), .int 0, .int (-1), .int 1, .ref (t 8), .int 0, .int 0, .int 0, .int 0, .int 0])), ((t 8), .inl (k 2, 900, .inl f_3))] H := hP
  have hD : va_D A [((t 1), .inr (4, [.ref (u 0), .int 0, .int (-1), .int 1, .ref (t 8), .int 0, .int 0, .int 0, .int 0, .int 0])), ((t 8), .inl (k 2, 900, .inl f_3))] := hD
  refine lv_iinc (v := 16) (lv' := [(2, .int 16), (0, .ref (t 1)), (1, .int x)]) hx hb dX5_takeInt_40 hl (k := 0) rfl (by decide) (by decide) rfl (fun ls hl => ?_)
  refine lv_goto (tgt := 3) hx hb dX5_takeInt_43 (by decide) ?_
  refine lv_iload_n hx hb dX5_takeInt_3 rfl (lv_at hl 0 rfl) ?_
  refine lv_if_lt (tgt := 46) hx hb dX5_takeInt_4 (by decide) (fun c9 => absurd c9 (by decide)) (fun _ => ?_)
  refine lv_aload_n hx hb dX5_takeInt_7 rfl (lv_at hl 1 rfl) ?_
  refine va_get (D := D) (ci := 4) (v := .int 1) (C := RX5) (T := TX5) (N := 10) hx hb hts inlX5 hown hK hP 0 rfl rfl 3 (by decide) (hts _ mw_120) (fun _ h9 => h9) rfl dX5_takeInt_8 ?_
  refine lv_sipush (v := 900) hx hb dX5_takeInt_11 (by decide) ?_
  refine lv_icmp_ge (tgt := 46) hx hb dX5_takeInt_14 (by decide) (fun c9 => absurd c9 (by decide)) (fun _ => ?_)
  refine lv_aload_n hx hb dX5_takeInt_17 rfl (lv_at hl 1 rfl) ?_
  refine va_get (D := D) (ci := 4) (v := .ref (t 8)) (C := RX5) (T := TX5) (N := 10) hx hb hts inlX5 hown hK hP 0 rfl rfl 4 (by decide) (hts _ mw_50) (fun _ h9 => h9) rfl dX5_takeInt_18 ?_
  refine lv_aload_n hx hb dX5_takeInt_21 rfl (lv_at hl 1 rfl) ?_
  refine va_get (D := D) (ci := 4) (v := .int 1) (C := RX5) (T := TX5) (N := 10) hx hb hts inlX5 hown hK hP 0 rfl rfl 3 (by decide) (hts _ mw_120) (fun _ h9 => h9) rfl dX5_takeInt_22 ?_
  refine lv_iload_n hx hb dX5_takeInt_25 rfl (lv_at hl 2 rfl) ?_
  refine lv_iload_n hx hb dX5_takeInt_26 rfl (lv_at hl 0 rfl) ?_
  refine lv_iushr hx hb dX5_takeInt_27 rfl ?_
  refine lv_topi (fun z_4 ez_4 => ?_)
  refine lv_i2b hx hb dX5_takeInt_28 rfl ?_
  refine lv_topi (fun z_5 ez_5 => ?_)
  refine va_bast hx hb hK hP hD hS 1 2 rfl rfl (vp_in_c (by decide)) dX5_takeInt_29 (fun H locs hP hD hS => ?_)
  have hP : va_P D vwCl [((t 1), .inr (4, [.ref (u 0), .int 0, .int (-1), .int 1, .ref (t 8), .int 0, .int 0, .int 0, .int 0, .int 0])), ((t 8), .inl (k 2, 900, .inl (upd f_3 (1 : Int32).toNatClampNeg (vp_nar .byte z_5))))] H := hP
  have hD : va_D A [((t 1), .inr (4, [.ref (u 0), .int 0, .int (-1), .int 1, .ref (t 8), .int 0, .int 0, .int 0, .int 0, .int 0])), ((t 8), .inl (k 2, 900, .inl (upd f_3 (1 : Int32).toNatClampNeg (vp_nar .byte z_5))))] := hD
  generalize ef_6 : (upd f_3 (1 : Int32).toNatClampNeg (vp_nar .byte z_5)) = f_6 at hP hD
  refine lv_aload_n hx hb dX5_takeInt_30 rfl (lv_at hl 1 rfl) ?_
  refine lv_dup hx hb dX5_takeInt_31 rfl ?_
  refine va_get (D := D) (ci := 4) (v := .int 1) (C := RX5) (T := TX5) (N := 10) hx hb hts inlX5 hown hK hP 0 rfl rfl 3 (by decide) (hts _ mw_120) (fun _ h9 => h9) rfl dX5_takeInt_32 ?_
  refine lv_iconst (v := 1) hx hb dX5_takeInt_35 (by decide) ?_
  refine lv_iadd hx hb dX5_takeInt_36 ?_
  refine lv_ni (v := 2) (by decide) ?_
  refine va_put (D := D) (ci := 4) (v := .int 2) (ty := .int) (C := RX5) (T := TX5) (N := 10) hx hb hts inlX5 tyX5 tyX5_ok nmX5 hown hK hP hD hS 0 rfl rfl 3 (by decide) (hts _ mw_120) (fun _ h9 => h9) rfl (by decide +kernel) rfl rfl (Nat.le_of_ble_eq_true rfl) dX5_takeInt_37 (fun H locs hP hD hS => ?_)
  have hP : va_P D vwCl [((t 1), .inr (4, [.ref (u 0), .int 0, .int (-1), .int 2, .ref (t 8), .int 0, .int 0, .int 0, .int 0, .int 0])), ((t 8), .inl (k 2, 900, .inl f_6))] H := hP
  have hD : va_D A [((t 1), .inr (4, [.ref (u 0), .int 0, .int (-1), .int 2, .ref (t 8), .int 0, .int 0, .int 0, .int 0, .int 0])), ((t 8), .inl (k 2, 900, .inl f_6))] := hD
  refine lv_iinc (v := 8) (lv' := [(2, .int 8), (0, .ref (t 1)), (1, .int x)]) hx hb dX5_takeInt_40 hl (k := 0) rfl (by decide) (by decide) rfl (fun ls hl => ?_)
  refine lv_goto (tgt := 3) hx hb dX5_takeInt_43 (by decide) ?_
  refine lv_iload_n hx hb dX5_takeInt_3 rfl (lv_at hl 0 rfl) ?_
  refine lv_if_lt (tgt := 46) hx hb dX5_takeInt_4 (by decide) (fun c9 => absurd c9 (by decide)) (fun _ => ?_)
  refine lv_aload_n hx hb dX5_takeInt_7 rfl (lv_at hl 1 rfl) ?_
  refine va_get (D := D) (ci := 4) (v := .int 2) (C := RX5) (T := TX5) (N := 10) hx hb hts inlX5 hown hK hP 0 rfl rfl 3 (by decide) (hts _ mw_120) (fun _ h9 => h9) rfl dX5_takeInt_8 ?_
  refine lv_sipush (v := 900) hx hb dX5_takeInt_11 (by decide) ?_
  refine lv_icmp_ge (tgt := 46) hx hb dX5_takeInt_14 (by decide) (fun c9 => absurd c9 (by decide)) (fun _ => ?_)
  refine lv_aload_n hx hb dX5_takeInt_17 rfl (lv_at hl 1 rfl) ?_
  refine va_get (D := D) (ci := 4) (v := .ref (t 8)) (C := RX5) (T := TX5) (N := 10) hx hb hts inlX5 hown hK hP 0 rfl rfl 4 (by decide) (hts _ mw_50) (fun _ h9 => h9) rfl dX5_takeInt_18 ?_
  refine lv_aload_n hx hb dX5_takeInt_21 rfl (lv_at hl 1 rfl) ?_
  refine va_get (D := D) (ci := 4) (v := .int 2) (C := RX5) (T := TX5) (N := 10) hx hb hts inlX5 hown hK hP 0 rfl rfl 3 (by decide) (hts _ mw_120) (fun _ h9 => h9) rfl dX5_takeInt_22 ?_
  refine lv_iload_n hx hb dX5_takeInt_25 rfl (lv_at hl 2 rfl) ?_
  refine lv_iload_n hx hb dX5_takeInt_26 rfl (lv_at hl 0 rfl) ?_
  refine lv_iushr hx hb dX5_takeInt_27 rfl ?_
  refine lv_topi (fun z_7 ez_7 => ?_)
  refine lv_i2b hx hb dX5_takeInt_28 rfl ?_
  refine lv_topi (fun z_8 ez_8 => ?_)
  refine va_bast hx hb hK hP hD hS 1 2 rfl rfl (vp_in_c (by decide)) dX5_takeInt_29 (fun H locs hP hD hS => ?_)
  have hP : va_P D vwCl [((t 1), .inr (4, [.ref (u 0), .int 0, .int (-1), .int 2, .ref (t 8), .int 0, .int 0, .int 0, .int 0, .int 0])), ((t 8), .inl (k 2, 900, .inl (upd f_6 (2 : Int32).toNatClampNeg (vp_nar .byte z_8))))] H := hP
  have hD : va_D A [((t 1), .inr (4, [.ref (u 0), .int 0, .int (-1), .int 2, .ref (t 8), .int 0, .int 0, .int 0, .int 0, .int 0])), ((t 8), .inl (k 2, 900, .inl (upd f_6 (2 : Int32).toNatClampNeg (vp_nar .byte z_8))))] := hD
  generalize ef_9 : (upd f_6 (2 : Int32).toNatClampNeg (vp_nar .byte z_8)) = f_9 at hP hD
  refine lv_aload_n hx hb dX5_takeInt_30 rfl (lv_at hl 1 rfl) ?_
  refine lv_dup hx hb dX5_takeInt_31 rfl ?_
  refine va_get (D := D) (ci := 4) (v := .int 2) (C := RX5) (T := TX5) (N := 10) hx hb hts inlX5 hown hK hP 0 rfl rfl 3 (by decide) (hts _ mw_120) (fun _ h9 => h9) rfl dX5_takeInt_32 ?_
  refine lv_iconst (v := 1) hx hb dX5_takeInt_35 (by decide) ?_
  refine lv_iadd hx hb dX5_takeInt_36 ?_
  refine lv_ni (v := 3) (by decide) ?_
  refine va_put (D := D) (ci := 4) (v := .int 3) (ty := .int) (C := RX5) (T := TX5) (N := 10) hx hb hts inlX5 tyX5 tyX5_ok nmX5 hown hK hP hD hS 0 rfl rfl 3 (by decide) (hts _ mw_120) (fun _ h9 => h9) rfl (by decide +kernel) rfl rfl (Nat.le_of_ble_eq_true rfl) dX5_takeInt_37 (fun H locs hP hD hS => ?_)
  have hP : va_P D vwCl [((t 1), .inr (4, [.ref (u 0), .int 0, .int (-1), .int 3, .ref (t 8), .int 0, .int 0, .int 0, .int 0, .int 0])), ((t 8), .inl (k 2, 900, .inl f_9))] H := hP
  have hD : va_D A [((t 1), .inr (4, [.ref (u 0), .int 0, .int (-1), .int 3, .ref (t 8), .int 0, .int 0, .int 0, .int 0, .int 0])), ((t 8), .inl (k 2, 900, .inl f_9))] := hD
  refine lv_iinc (v := 0) (lv' := [(2, .int 0), (0, .ref (t 1)), (1, .int x)]) hx hb dX5_takeInt_40 hl (k := 0) rfl (by decide) (by decide) rfl (fun ls hl => ?_)
  refine lv_goto (tgt := 3) hx hb dX5_takeInt_43 (by decide) ?_
  refine lv_iload_n hx hb dX5_takeInt_3 rfl (lv_at hl 0 rfl) ?_
  refine lv_if_lt (tgt := 46) hx hb dX5_takeInt_4 (by decide) (fun c9 => absurd c9 (by decide)) (fun _ => ?_)
  refine lv_aload_n hx hb dX5_takeInt_7 rfl (lv_at hl 1 rfl) ?_
  refine va_get (D := D) (ci := 4) (v := .int 3) (C := RX5) (T := TX5) (N := 10) hx hb hts inlX5 hown hK hP 0 rfl rfl 3 (by decide) (hts _ mw_120) (fun _ h9 => h9) rfl dX5_takeInt_8 ?_
  refine lv_sipush (v := 900) hx hb dX5_takeInt_11 (by decide) ?_
  refine lv_icmp_ge (tgt := 46) hx hb dX5_takeInt_14 (by decide) (fun c9 => absurd c9 (by decide)) (fun _ => ?_)
  refine lv_aload_n hx hb dX5_takeInt_17 rfl (lv_at hl 1 rfl) ?_
  refine va_get (D := D) (ci := 4) (v := .ref (t 8)) (C := RX5) (T := TX5) (N := 10) hx hb hts inlX5 hown hK hP 0 rfl rfl 4 (by decide) (hts _ mw_50) (fun _ h9 => h9) rfl dX5_takeInt_18 ?_
  refine lv_aload_n hx hb dX5_takeInt_21 rfl (lv_at hl 1 rfl) ?_
  refine va_get (D := D) (ci := 4) (v := .int 3) (C := RX5) (T := TX5) (N := 10) hx hb hts inlX5 hown hK hP 0 rfl rfl 3 (by decide) (hts _ mw_120) (fun _ h9 => h9) rfl dX5_takeInt_22 ?_
  refine lv_iload_n hx hb dX5_takeInt_25 rfl (lv_at hl 2 rfl) ?_
  refine lv_iload_n hx hb dX5_takeInt_26 rfl (lv_at hl 0 rfl) ?_
  refine lv_iushr hx hb dX5_takeInt_27 rfl ?_
  refine lv_topi (fun z_10 ez_10 => ?_)
  refine lv_i2b hx hb dX5_takeInt_28 rfl ?_
  refine lv_topi (fun z_11 ez_11 => ?_)
  refine va_bast hx hb hK hP hD hS 1 2 rfl rfl (vp_in_c (by decide)) dX5_takeInt_29 (fun H locs hP hD hS => ?_)
  have hP : va_P D vwCl [((t 1), .inr (4, [.ref (u 0), .int 0, .int (-1), .int 3, .ref (t 8), .int 0, .int 0, .int 0, .int 0, .int 0])), ((t 8), .inl (k 2, 900, .inl (upd f_9 (3 : Int32).toNatClampNeg (vp_nar .byte z_11))))] H := hP
  have hD : va_D A [((t 1), .inr (4, [.ref (u 0), .int 0, .int (-1), .int 3, .ref (t 8), .int 0, .int 0, .int 0, .int 0, .int 0])), ((t 8), .inl (k 2, 900, .inl (upd f_9 (3 : Int32).toNatClampNeg (vp_nar .byte z_11))))] := hD
  generalize ef_12 : (upd f_9 (3 : Int32).toNatClampNeg (vp_nar .byte z_11)) = f_12 at hP hD
  refine lv_aload_n hx hb dX5_takeInt_30 rfl (lv_at hl 1 rfl) ?_
  refine lv_dup hx hb dX5_takeInt_31 rfl ?_
  refine va_get (D := D) (ci := 4) (v := .int 3) (C := RX5) (T := TX5) (N := 10) hx hb hts inlX5 hown hK hP 0 rfl rfl 3 (by decide) (hts _ mw_120) (fun _ h9 => h9) rfl dX5_takeInt_32 ?_
  refine lv_iconst (v := 1) hx hb dX5_takeInt_35 (by decide) ?_
  refine lv_iadd hx hb dX5_takeInt_36 ?_
  refine lv_ni (v := 4) (by decide) ?_
  refine va_put (D := D) (ci := 4) (v := .int 4) (ty := .int) (C := RX5) (T := TX5) (N := 10) hx hb hts inlX5 tyX5 tyX5_ok nmX5 hown hK hP hD hS 0 rfl rfl 3 (by decide) (hts _ mw_120) (fun _ h9 => h9) rfl (by decide +kernel) rfl rfl (Nat.le_of_ble_eq_true rfl) dX5_takeInt_37 (fun H locs hP hD hS => ?_)
  have hP : va_P D vwCl [((t 1), .inr (4, [.ref (u 0), .int 0, .int (-1), .int 4, .ref (t 8), .int 0, .int 0, .int 0, .int 0, .int 0])), ((t 8), .inl (k 2, 900, .inl f_12))] H := hP
  have hD : va_D A [((t 1), .inr (4, [.ref (u 0), .int 0, .int (-1), .int 4, .ref (t 8), .int 0, .int 0, .int 0, .int 0, .int 0])), ((t 8), .inl (k 2, 900, .inl f_12))] := hD
  refine lv_iinc (v := (-8)) (lv' := [(2, .int (-8)), (0, .ref (t 1)), (1, .int x)]) hx hb dX5_takeInt_40 hl (k := 0) rfl (by decide) (by decide) rfl (fun ls hl => ?_)
  refine lv_goto (tgt := 3) hx hb dX5_takeInt_43 (by decide) ?_
  refine lv_iload_n hx hb dX5_takeInt_3 rfl (lv_at hl 0 rfl) ?_
  refine lv_if_lt (tgt := 46) hx hb dX5_takeInt_4 (by decide) (fun _ => ?_) (fun c9 => absurd c9 (by decide))
  have hP9 := hP.sub (ws' := [((t 1), .inr (4, [.ref (u 0), .int 0, .int (-1), .int 4, .ref (t 8), .int 0, .int 0, .int 0, .int 0, .int 0])), ((t 8), .inl (k 2, 900, .inl f_12))]) [0, 1] rfl
  have hD9 := hD.sub (ws' := [((t 1), .inr (4, [.ref (u 0), .int 0, .int (-1), .int 4, .ref (t 8), .int 0, .int 0, .int 0, .int 0, .int 0])), ((t 8), .inl (k 2, 900, .inl f_12))]) [0, 1] (by decide) rfl
  exact W.vret hx hb hr (fun t ht hW => ⟨⟨(f_12), rfl, trivial, by rw [ht]; exact hP9, hD9⟩, hS.F ht⟩) hS.2.2 dX5_takeInt_46
set_option maxHeartbeats 4000000 in
set_option maxRecDepth 100000 in
theorem c_R_takeInt4 (l : Launch) (D : va_G) (k : Nat → ClassId) (t : Nat → Nat) (u : Nat → Nat) (f : Nat → Int32) (x : Int32) (sz : Nat) : Met l yX5_takeInt (Cond.code yX5_takeInt cX5_takeInt 3 none :: wsL_law) ({ frames := 0, cells := 0, slots := 0, locals := 0 } : Room) (va_Pc [.ref (t 1), .int x] (pu D k sz [((t 1), .inr (4, [.ref (u 0), .int 0, .int (-1), .int 4, .ref (t 8), .int 0, .int 0, .int 0, .int 0, .int 0])), ((t 8), .inl (k 2, 900, .inl f))])) (va_Qv (fun uu : Nat → Int32 => True) (qu D (va_A [((t 1), .inr (4, [.ref (u 0), .int 0, .int (-1), .int 4, .ref (t 8), .int 0, .int 0, .int 0, .int 0, .int 0])), ((t 8), .inl (k 2, 900, .inl f))] sz) (fun uu : Nat → Int32 => [((t 1), .inr (4, [.ref (u 0), .int 0, .int (-1), .int 8, .ref (t 8), .int 0, .int 0, .int 0, .int 0, .int 0])), ((t 8), .inl (k 2, 900, .inl uu))])) (va_A [((t 1), .inr (4, [.ref (u 0), .int 0, .int (-1), .int 4, .ref (t 8), .int 0, .int 0, .int 0, .int 0, .int 0])), ((t 8), .inl (k 2, 900, .inl f))] sz)) 0 0 (va_A [((t 1), .inr (4, [.ref (u 0), .int 0, .int (-1), .int 4, .ref (t 8), .int 0, .int 0, .int 0, .int 0, .int 0])), ((t 8), .inl (k 2, 900, .inl f))] sz) := by
  refine Met.ofW (cc := cX5_takeInt) (maxL := 3) (ret := none) (by decide) rfl ?_
  intro p e s m args below meth c s₁ B hml hv
  obtain ⟨rfl, hsz, hP, hK, hD0⟩ := hv
  have hx := B.exec
  have hb := B.bytes
  have hr := B.returns
  have hts : ∀ w ∈ wsL_law, w.before _ s = true := fun w h => atoms_spec (ws := Cond.code yX5_takeInt cX5_takeInt 3 none :: wsL_law) B.pre w (List.mem_cons_of_mem _ h)
  have hown : s.vm.findClass RX5 = some m.cls := findClass_of_methodNamed B.named
  have hlocks := B.notSynchronized
  subst hsz
  have hD := hD0.self (sz := s.heap.size)
  generalize hAe : va_A [((t 1), .inr (4, [.ref (u 0), .int 0, .int (-1), .int 4, .ref (t 8), .int 0, .int 0, .int 0, .int 0, .int 0])), ((t 8), .inl (k 2, 900, .inl f))] s.heap.size = A at hD ⊢
  have hA : ∀ q : Nat, s.heap.size ≤ q → A q := fun q h => by rw [← hAe]; exact Or.inr h
  have hS : va_S A s.heap s.heap [] := va_S.rf
  have hP : va_P D vwCl [((t 1), .inr (4, [.ref (u 0), .int 0, .int (-1), .int 4, .ref (t 8), .int 0, .int 0, .int 0, .int 0, .int 0])), ((t 8), .inl (k 2, 900, .inl f))] s.heap := hP
  have hl := lv_entry ([.ref (t 1), .int x]) (n := 3) (Nat.le_of_ble_eq_true rfl)
  rw [lg_entry_eq]
  generalize (lg_sl ([.ref (t 1), .int x]) ++ List.replicate (3 - (lg_sl ([.ref (t 1), .int x])).length) Slot.unset).toArray = ls at hl ⊢
  have hl : lv_has ls 3 [(0, .ref (t 1)), (1, .int x)] := hl
  refine lv_bipush (v := 24) hx hb dX5_takeInt_0 (by decide) ?_
  refine lv_istore_n (lv' := [(2, .int 24), (0, .ref (t 1)), (1, .int x)]) hx hb dX5_takeInt_2 rfl hl (by decide) rfl (fun ls hl => ?_)
  refine lv_iload_n hx hb dX5_takeInt_3 rfl (lv_at hl 0 rfl) ?_
  refine lv_if_lt (tgt := 46) hx hb dX5_takeInt_4 (by decide) (fun c9 => absurd c9 (by decide)) (fun _ => ?_)
  refine lv_aload_n hx hb dX5_takeInt_7 rfl (lv_at hl 1 rfl) ?_
  refine va_get (D := D) (ci := 4) (v := .int 4) (C := RX5) (T := TX5) (N := 10) hx hb hts inlX5 hown hK hP 0 rfl rfl 3 (by decide) (hts _ mw_120) (fun _ h9 => h9) rfl dX5_takeInt_8 ?_
  refine lv_sipush (v := 900) hx hb dX5_takeInt_11 (by decide) ?_
  refine lv_icmp_ge (tgt := 46) hx hb dX5_takeInt_14 (by decide) (fun c9 => absurd c9 (by decide)) (fun _ => ?_)
  refine lv_aload_n hx hb dX5_takeInt_17 rfl (lv_at hl 1 rfl) ?_
  refine va_get (D := D) (ci := 4) (v := .ref (t 8)) (C := RX5) (T := TX5) (N := 10) hx hb hts inlX5 hown hK hP 0 rfl rfl 4 (by decide) (hts _ mw_50) (fun _ h9 => h9) rfl dX5_takeInt_18 ?_
  refine lv_aload_n hx hb dX5_takeInt_21 rfl (lv_at hl 1 rfl) ?_
  refine va_get (D := D) (ci := 4) (v := .int 4) (C := RX5) (T := TX5) (N := 10) hx hb hts inlX5 hown hK hP 0 rfl rfl 3 (by decide) (hts _ mw_120) (fun _ h9 => h9) rfl dX5_takeInt_22 ?_
  refine lv_iload_n hx hb dX5_takeInt_25 rfl (lv_at hl 2 rfl) ?_
  refine lv_iload_n hx hb dX5_takeInt_26 rfl (lv_at hl 0 rfl) ?_
  refine lv_iushr hx hb dX5_takeInt_27 rfl ?_
  refine lv_topi (fun z_1 ez_1 => ?_)
  refine lv_i2b hx hb dX5_takeInt_28 rfl ?_
  refine lv_topi (fun z_2 ez_2 => ?_)
  refine va_bast hx hb hK hP hD hS 1 2 rfl rfl (vp_in_c (by decide)) dX5_takeInt_29 (fun H locs hP hD hS => ?_)
  have hP : va_P D vwCl [((t 1), .inr (4, [.ref (u 0), .int 0, .int (-1), .int 4, .ref (t 8), .int 0, .int 0, .int 0, .int 0, .int 0])), ((t 8), .inl (k 2, 900, .inl (upd f (4 : Int32).toNatClampNeg (vp_nar .byte z_2))))] H := hP
  have hD : va_D A [((t 1), .inr (4, [.ref (u 0), .int 0, .int (-1), .int 4, .ref (t 8), .int 0, .int 0, .int 0, .int 0, .int 0])), ((t 8), .inl (k 2, 900, .inl (upd f (4 : Int32).toNatClampNeg (vp_nar .byte z_2))))] := hD
  generalize ef_3 : (upd f (4 : Int32).toNatClampNeg (vp_nar .byte z_2)) = f_3 at hP hD
  refine lv_aload_n hx hb dX5_takeInt_30 rfl (lv_at hl 1 rfl) ?_
  refine lv_dup hx hb dX5_takeInt_31 rfl ?_
  refine va_get (D := D) (ci := 4) (v := .int 4) (C := RX5) (T := TX5) (N := 10) hx hb hts inlX5 hown hK hP 0 rfl rfl 3 (by decide) (hts _ mw_120) (fun _ h9 => h9) rfl dX5_takeInt_32 ?_
  refine lv_iconst (v := 1) hx hb dX5_takeInt_35 (by decide) ?_
  refine lv_iadd hx hb dX5_takeInt_36 ?_
  refine lv_ni (v := 5) (by decide) ?_
  refine va_put (D := D) (ci := 4) (v := .int 5) (ty := .int) (C := RX5) (T := TX5) (N := 10) hx hb hts inlX5 tyX5 tyX5_ok nmX5 hown hK hP hD hS 0 rfl rfl 3 (by decide) (hts _ mw_120) (fun _ h9 => h9) rfl (by decide +kernel) rfl rfl (Nat.le_of_ble_eq_true rfl) dX5_takeInt_37 (fun H locs hP hD hS => ?_)
  have hP : va_P D vwCl [((t 1), .inr (4, [.ref (u 0), .int 0, .int (-1), .int 5, .ref (t 8), .int 0, .int 0, .int 0, .int 0, .int 0])), ((t 8), .inl (k 2, 900, .inl f_3))] H := hP
  have hD : va_D A [((t 1), .inr (4, [.ref (u 0), .int 0, .int (-1), .int 5, .ref (t 8), .int 0, .int 0, .int 0, .int 0, .int 0])), ((t 8), .inl (k 2, 900, .inl f_3))] := hD
  refine lv_iinc (v := 16) (lv' := [(2, .int 16), (0, .ref (t 1)), (1, .int x)]) hx hb dX5_takeInt_40 hl (k := 0) rfl (by decide) (by decide) rfl (fun ls hl => ?_)
  refine lv_goto (tgt := 3) hx hb dX5_takeInt_43 (by decide) ?_
  refine lv_iload_n hx hb dX5_takeInt_3 rfl (lv_at hl 0 rfl) ?_
  refine lv_if_lt (tgt := 46) hx hb dX5_takeInt_4 (by decide) (fun c9 => absurd c9 (by decide)) (fun _ => ?_)
  refine lv_aload_n hx hb dX5_takeInt_7 rfl (lv_at hl 1 rfl) ?_
  refine va_get (D := D) (ci := 4) (v := .int 5) (C := RX5) (T := TX5) (N := 10) hx hb hts inlX5 hown hK hP 0 rfl rfl 3 (by decide) (hts _ mw_120) (fun _ h9 => h9) rfl dX5_takeInt_8 ?_
  refine lv_sipush (v := 900) hx hb dX5_takeInt_11 (by decide) ?_
  refine lv_icmp_ge (tgt := 46) hx hb dX5_takeInt_14 (by decide) (fun c9 => absurd c9 (by decide)) (fun _ => ?_)
  refine lv_aload_n hx hb dX5_takeInt_17 rfl (lv_at hl 1 rfl) ?_
  refine va_get (D := D) (ci := 4) (v := .ref (t 8)) (C := RX5) (T := TX5) (N := 10) hx hb hts inlX5 hown hK hP 0 rfl rfl 4 (by decide) (hts _ mw_50) (fun _ h9 => h9) rfl dX5_takeInt_18 ?_
  refine lv_aload_n hx hb dX5_takeInt_21 rfl (lv_at hl 1 rfl) ?_
  refine va_get (D := D) (ci := 4) (v := .int 5) (C := RX5) (T := TX5) (N := 10) hx hb hts inlX5 hown hK hP 0 rfl rfl 3 (by decide) (hts _ mw_120) (fun _ h9 => h9) rfl dX5_takeInt_22 ?_
  refine lv_iload_n hx hb dX5_takeInt_25 rfl (lv_at hl 2 rfl) ?_
  refine lv_iload_n hx hb dX5_takeInt_26 rfl (lv_at hl 0 rfl) ?_
  refine lv_iushr hx hb dX5_takeInt_27 rfl ?_
  refine lv_topi (fun z_4 ez_4 => ?_)
  refine lv_i2b hx hb dX5_takeInt_28 rfl ?_
  refine lv_topi (fun z_5 ez_5 => ?_)
  refine va_bast hx hb hK hP hD hS 1 2 rfl rfl (vp_in_c (by decide)) dX5_takeInt_29 (fun H locs hP hD hS => ?_)
  have hP : va_P D vwCl [((t 1), .inr (4, [.ref (u 0), .int 0, .int (-1), .int 5, .ref (t 8), .int 0, .int 0, .int 0, .int 0, .int 0])), ((t 8), .inl (k 2, 900, .inl (upd f_3 (5 : Int32).toNatClampNeg (vp_nar .byte z_5))))] H := hP
  have hD : va_D A [((t 1), .inr (4, [.ref (u 0), .int 0, .int (-1), .int 5, .ref (t 8), .int 0, .int 0, .int 0, .int 0, .int 0])), ((t 8), .inl (k 2, 900, .inl (upd f_3 (5 : Int32).toNatClampNeg (vp_nar .byte z_5))))] := hD
  generalize ef_6 : (upd f_3 (5 : Int32).toNatClampNeg (vp_nar .byte z_5)) = f_6 at hP hD
  refine lv_aload_n hx hb dX5_takeInt_30 rfl (lv_at hl 1 rfl) ?_
  refine lv_dup hx hb dX5_takeInt_31 rfl ?_
  refine va_get (D := D) (ci := 4) (v := .int 5) (C := RX5) (T := TX5) (N := 10) hx hb hts inlX5 hown hK hP 0 rfl rfl 3 (by decide) (hts _ mw_120) (fun _ h9 => h9) rfl dX5_takeInt_32 ?_
  refine lv_iconst (v := 1) hx hb dX5_takeInt_35 (by decide) ?_
  refine lv_iadd hx hb dX5_takeInt_36 ?_
  refine lv_ni (v := 6) (by decide) ?_
  refine va_put (D := D) (ci := 4) (v := .int 6) (ty := .int) (C := RX5) (T := TX5) (N := 10) hx hb hts inlX5 tyX5 tyX5_ok nmX5 hown hK hP hD hS 0 rfl rfl 3 (by decide) (hts _ mw_120) (fun _ h9 => h9) rfl (by decide +kernel) rfl rfl (Nat.le_of_ble_eq_true rfl) dX5_takeInt_37 (fun H locs hP hD hS => ?_)
  have hP : va_P D vwCl [((t 1), .inr (4, [.ref (u 0), .int 0, .int (-1), .int 6, .ref (t 8), .int 0, .int 0, .int 0, .int 0, .int 0])), ((t 8), .inl (k 2, 900, .inl f_6))] H := hP
  have hD : va_D A [((t 1), .inr (4, [.ref (u 0), .int 0, .int (-1), .int 6, .ref (t 8), .int 0, .int 0, .int 0, .int 0, .int 0])), ((t 8), .inl (k 2, 900, .inl f_6))] := hD
  refine lv_iinc (v := 8) (lv' := [(2, .int 8), (0, .ref (t 1)), (1, .int x)]) hx hb dX5_takeInt_40 hl (k := 0) rfl (by decide) (by decide) rfl (fun ls hl => ?_)
  refine lv_goto (tgt := 3) hx hb dX5_takeInt_43 (by decide) ?_
  refine lv_iload_n hx hb dX5_takeInt_3 rfl (lv_at hl 0 rfl) ?_
  refine lv_if_lt (tgt := 46) hx hb dX5_takeInt_4 (by decide) (fun c9 => absurd c9 (by decide)) (fun _ => ?_)
  refine lv_aload_n hx hb dX5_takeInt_7 rfl (lv_at hl 1 rfl) ?_
  refine va_get (D := D) (ci := 4) (v := .int 6) (C := RX5) (T := TX5) (N := 10) hx hb hts inlX5 hown hK hP 0 rfl rfl 3 (by decide) (hts _ mw_120) (fun _ h9 => h9) rfl dX5_takeInt_8 ?_
  refine lv_sipush (v := 900) hx hb dX5_takeInt_11 (by decide) ?_
  refine lv_icmp_ge (tgt := 46) hx hb dX5_takeInt_14 (by decide) (fun c9 => absurd c9 (by decide)) (fun _ => ?_)
  refine lv_aload_n hx hb dX5_takeInt_17 rfl (lv_at hl 1 rfl) ?_
  refine va_get (D := D) (ci := 4) (v := .ref (t 8)) (C := RX5) (T := TX5) (N := 10) hx hb hts inlX5 hown hK hP 0 rfl rfl 4 (by decide) (hts _ mw_50) (fun _ h9 => h9) rfl dX5_takeInt_18 ?_
  refine lv_aload_n hx hb dX5_takeInt_21 rfl (lv_at hl 1 rfl) ?_
  refine va_get (D := D) (ci := 4) (v := .int 6) (C := RX5) (T := TX5) (N := 10) hx hb hts inlX5 hown hK hP 0 rfl rfl 3 (by decide) (hts _ mw_120) (fun _ h9 => h9) rfl dX5_takeInt_22 ?_
  refine lv_iload_n hx hb dX5_takeInt_25 rfl (lv_at hl 2 rfl) ?_
  refine lv_iload_n hx hb dX5_takeInt_26 rfl (lv_at hl 0 rfl) ?_
  refine lv_iushr hx hb dX5_takeInt_27 rfl ?_
  refine lv_topi (fun z_7 ez_7 => ?_)
  refine lv_i2b hx hb dX5_takeInt_28 rfl ?_
  refine lv_topi (fun z_8 ez_8 => ?_)
  refine va_bast hx hb hK hP hD hS 1 2 rfl rfl (vp_in_c (by decide)) dX5_takeInt_29 (fun H locs hP hD hS => ?_)
  have hP : va_P D vwCl [((t 1), .inr (4, [.ref (u 0), .int 0, .int (-1), .int 6, .ref (t 8), .int 0, .int 0, .int 0, .int 0, .int 0])), ((t 8), .inl (k 2, 900, .inl (upd f_6 (6 : Int32).toNatClampNeg (vp_nar .byte z_8))))] H := hP
  have hD : va_D A [((t 1), .inr (4, [.ref (u 0), .int 0, .int (-1), .int 6, .ref (t 8), .int 0, .int 0, .int 0, .int 0, .int 0])), ((t 8), .inl (k 2, 900, .inl (upd f_6 (6 : Int32).toNatClampNeg (vp_nar .byte z_8))))] := hD
  generalize ef_9 : (upd f_6 (6 : Int32).toNatClampNeg (vp_nar .byte z_8)) = f_9 at hP hD
  refine lv_aload_n hx hb dX5_takeInt_30 rfl (lv_at hl 1 rfl) ?_
  refine lv_dup hx hb dX5_takeInt_31 rfl ?_
  refine va_get (D := D) (ci := 4) (v := .int 6) (C := RX5) (T := TX5) (N := 10) hx hb hts inlX5 hown hK hP 0 rfl rfl 3 (by decide) (hts _ mw_120) (fun _ h9 => h9) rfl dX5_takeInt_32 ?_
  refine lv_iconst (v := 1) hx hb dX5_takeInt_35 (by decide) ?_
  refine lv_iadd hx hb dX5_takeInt_36 ?_
  refine lv_ni (v := 7) (by decide) ?_
  refine va_put (D := D) (ci := 4) (v := .int 7) (ty := .int) (C := RX5) (T := TX5) (N := 10) hx hb hts inlX5 tyX5 tyX5_ok nmX5 hown hK hP hD hS 0 rfl rfl 3 (by decide) (hts _ mw_120) (fun _ h9 => h9) rfl (by decide +kernel) rfl rfl (Nat.le_of_ble_eq_true rfl) dX5_takeInt_37 (fun H locs hP hD hS => ?_)
  have hP : va_P D vwCl [((t 1), .inr (4, [.ref (u 0), .int 0, .int (-1), .int 7, .ref (t 8), .int 0, .int 0, .int 0, .int 0, .int 0])), ((t 8), .inl (k 2, 900, .inl f_9))] H := hP
  have hD : va_D A [((t 1), .inr (4, [.ref (u 0), .int 0, .int (-1), .int 7, .ref (t 8), .int 0, .int 0, .int 0, .int 0, .int 0])), ((t 8), .inl (k 2, 900, .inl f_9))] := hD
  refine lv_iinc (v := 0) (lv' := [(2, .int 0), (0, .ref (t 1)), (1, .int x)]) hx hb dX5_takeInt_40 hl (k := 0) rfl (by decide) (by decide) rfl (fun ls hl => ?_)
  refine lv_goto (tgt := 3) hx hb dX5_takeInt_43 (by decide) ?_
  refine lv_iload_n hx hb dX5_takeInt_3 rfl (lv_at hl 0 rfl) ?_
  refine lv_if_lt (tgt := 46) hx hb dX5_takeInt_4 (by decide) (fun c9 => absurd c9 (by decide)) (fun _ => ?_)
  refine lv_aload_n hx hb dX5_takeInt_7 rfl (lv_at hl 1 rfl) ?_
  refine va_get (D := D) (ci := 4) (v := .int 7) (C := RX5) (T := TX5) (N := 10) hx hb hts inlX5 hown hK hP 0 rfl rfl 3 (by decide) (hts _ mw_120) (fun _ h9 => h9) rfl dX5_takeInt_8 ?_
  refine lv_sipush (v := 900) hx hb dX5_takeInt_11 (by decide) ?_
  refine lv_icmp_ge (tgt := 46) hx hb dX5_takeInt_14 (by decide) (fun c9 => absurd c9 (by decide)) (fun _ => ?_)
  refine lv_aload_n hx hb dX5_takeInt_17 rfl (lv_at hl 1 rfl) ?_
  refine va_get (D := D) (ci := 4) (v := .ref (t 8)) (C := RX5) (T := TX5) (N := 10) hx hb hts inlX5 hown hK hP 0 rfl rfl 4 (by decide) (hts _ mw_50) (fun _ h9 => h9) rfl dX5_takeInt_18 ?_
  refine lv_aload_n hx hb dX5_takeInt_21 rfl (lv_at hl 1 rfl) ?_
  refine va_get (D := D) (ci := 4) (v := .int 7) (C := RX5) (T := TX5) (N := 10) hx hb hts inlX5 hown hK hP 0 rfl rfl 3 (by decide) (hts _ mw_120) (fun _ h9 => h9) rfl dX5_takeInt_22 ?_
  refine lv_iload_n hx hb dX5_takeInt_25 rfl (lv_at hl 2 rfl) ?_
  refine lv_iload_n hx hb dX5_takeInt_26 rfl (lv_at hl 0 rfl) ?_
  refine lv_iushr hx hb dX5_takeInt_27 rfl ?_
  refine lv_topi (fun z_10 ez_10 => ?_)
  refine lv_i2b hx hb dX5_takeInt_28 rfl ?_
  refine lv_topi (fun z_11 ez_11 => ?_)
  refine va_bast hx hb hK hP hD hS 1 2 rfl rfl (vp_in_c (by decide)) dX5_takeInt_29 (fun H locs hP hD hS => ?_)
  have hP : va_P D vwCl [((t 1), .inr (4, [.ref (u 0), .int 0, .int (-1), .int 7, .ref (t 8), .int 0, .int 0, .int 0, .int 0, .int 0])), ((t 8), .inl (k 2, 900, .inl (upd f_9 (7 : Int32).toNatClampNeg (vp_nar .byte z_11))))] H := hP
  have hD : va_D A [((t 1), .inr (4, [.ref (u 0), .int 0, .int (-1), .int 7, .ref (t 8), .int 0, .int 0, .int 0, .int 0, .int 0])), ((t 8), .inl (k 2, 900, .inl (upd f_9 (7 : Int32).toNatClampNeg (vp_nar .byte z_11))))] := hD
  generalize ef_12 : (upd f_9 (7 : Int32).toNatClampNeg (vp_nar .byte z_11)) = f_12 at hP hD
  refine lv_aload_n hx hb dX5_takeInt_30 rfl (lv_at hl 1 rfl) ?_
  refine lv_dup hx hb dX5_takeInt_31 rfl ?_
  refine va_get (D := D) (ci := 4) (v := .int 7) (C := RX5) (T := TX5) (N := 10) hx hb hts inlX5 hown hK hP 0 rfl rfl 3 (by decide) (hts _ mw_120) (fun _ h9 => h9) rfl dX5_takeInt_32 ?_
  refine lv_iconst (v := 1) hx hb dX5_takeInt_35 (by decide) ?_
  refine lv_iadd hx hb dX5_takeInt_36 ?_
  refine lv_ni (v := 8) (by decide) ?_
  refine va_put (D := D) (ci := 4) (v := .int 8) (ty := .int) (C := RX5) (T := TX5) (N := 10) hx hb hts inlX5 tyX5 tyX5_ok nmX5 hown hK hP hD hS 0 rfl rfl 3 (by decide) (hts _ mw_120) (fun _ h9 => h9) rfl (by decide +kernel) rfl rfl (Nat.le_of_ble_eq_true rfl) dX5_takeInt_37 (fun H locs hP hD hS => ?_)
  have hP : va_P D vwCl [((t 1), .inr (4, [.ref (u 0), .int 0, .int (-1), .int 8, .ref (t 8), .int 0, .int 0, .int 0, .int 0, .int 0])), ((t 8), .inl (k 2, 900, .inl f_12))] H := hP
  have hD : va_D A [((t 1), .inr (4, [.ref (u 0), .int 0, .int (-1), .int 8, .ref (t 8), .int 0, .int 0, .int 0, .int 0, .int 0])), ((t 8), .inl (k 2, 900, .inl f_12))] := hD
  refine lv_iinc (v := (-8)) (lv' := [(2, .int (-8)), (0, .ref (t 1)), (1, .int x)]) hx hb dX5_takeInt_40 hl (k := 0) rfl (by decide) (by decide) rfl (fun ls hl => ?_)
  refine lv_goto (tgt := 3) hx hb dX5_takeInt_43 (by decide) ?_
  refine lv_iload_n hx hb dX5_takeInt_3 rfl (lv_at hl 0 rfl) ?_
  refine lv_if_lt (tgt := 46) hx hb dX5_takeInt_4 (by decide) (fun _ => ?_) (fun c9 => absurd c9 (by decide))
  have hP9 := hP.sub (ws' := [((t 1), .inr (4, [.ref (u 0), .int 0, .int (-1), .int 8, .ref (t 8), .int 0, .int 0, .int 0, .int 0, .int 0])), ((t 8), .inl (k 2, 900, .inl f_12))]) [0, 1] rfl
  have hD9 := hD.sub (ws' := [((t 1), .inr (4, [.ref (u 0), .int 0, .int (-1), .int 8, .ref (t 8), .int 0, .int 0, .int 0, .int 0, .int 0])), ((t 8), .inl (k 2, 900, .inl f_12))]) [0, 1] (by decide) rfl
  exact W.vret hx hb hr (fun t ht hW => ⟨⟨(f_12), rfl, trivial, by rw [ht]; exact hP9, hD9⟩, hS.F ht⟩) hS.2.2 dX5_takeInt_46
set_option maxHeartbeats 4000000 in
set_option maxRecDepth 100000 in
theorem c_R_takeInt8 (l : Launch) (D : va_G) (k : Nat → ClassId) (t : Nat → Nat) (u : Nat → Nat) (f : Nat → Int32) (x : Int32) (sz : Nat) : Met l yX5_takeInt (Cond.code yX5_takeInt cX5_takeInt 3 none :: wsL_law) ({ frames := 0, cells := 0, slots := 0, locals := 0 } : Room) (va_Pc [.ref (t 1), .int x] (pu D k sz [((t 1), .inr (4, [.ref (u 0), .int 0, .int (-1), .int 8, .ref (t 8), .int 0, .int 0, .int 0, .int 0, .int 0])), ((t 8), .inl (k 2, 900, .inl f))])) (va_Qv (fun uu : Nat → Int32 => True) (qu D (va_A [((t 1), .inr (4, [.ref (u 0), .int 0, .int (-1), .int 8, .ref (t 8), .int 0, .int 0, .int 0, .int 0, .int 0])), ((t 8), .inl (k 2, 900, .inl f))] sz) (fun uu : Nat → Int32 => [((t 1), .inr (4, [.ref (u 0), .int 0, .int (-1), .int 12, .ref (t 8), .int 0, .int 0, .int 0, .int 0, .int 0])), ((t 8), .inl (k 2, 900, .inl uu))])) (va_A [((t 1), .inr (4, [.ref (u 0), .int 0, .int (-1), .int 8, .ref (t 8), .int 0, .int 0, .int 0, .int 0, .int 0])), ((t 8), .inl (k 2, 900, .inl f))] sz)) 0 0 (va_A [((t 1), .inr (4, [.ref (u 0), .int 0, .int (-1), .int 8, .ref (t 8), .int 0, .int 0, .int 0, .int 0, .int 0])), ((t 8), .inl (k 2, 900, .inl f))] sz) := by
  refine Met.ofW (cc := cX5_takeInt) (maxL := 3) (ret := none) (by decide) rfl ?_
  intro p e s m args below meth c s₁ B hml hv
  obtain ⟨rfl, hsz, hP, hK, hD0⟩ := hv
  have hx := B.exec
  have hb := B.bytes
  have hr := B.returns
  have hts : ∀ w ∈ wsL_law, w.before _ s = true := fun w h => atoms_spec (ws := Cond.code yX5_takeInt cX5_takeInt 3 none :: wsL_law) B.pre w (List.mem_cons_of_mem _ h)
  have hown : s.vm.findClass RX5 = some m.cls := findClass_of_methodNamed B.named
  have hlocks := B.notSynchronized
  subst hsz
  have hD := hD0.self (sz := s.heap.size)
  generalize hAe : va_A [((t 1), .inr (4, [.ref (u 0), .int 0, .int (-1), .int 8, .ref (t 8), .int 0, .int 0, .int 0, .int 0, .int 0])), ((t 8), .inl (k 2, 900, .inl f))] s.heap.size = A at hD ⊢
  have hA : ∀ q : Nat, s.heap.size ≤ q → A q := fun q h => by rw [← hAe]; exact Or.inr h
  have hS : va_S A s.heap s.heap [] := va_S.rf
  have hP : va_P D vwCl [((t 1), .inr (4, [.ref (u 0), .int 0, .int (-1), .int 8, .ref (t 8), .int 0, .int 0, .int 0, .int 0, .int 0])), ((t 8), .inl (k 2, 900, .inl f))] s.heap := hP
  have hl := lv_entry ([.ref (t 1), .int x]) (n := 3) (Nat.le_of_ble_eq_true rfl)
  rw [lg_entry_eq]
  generalize (lg_sl ([.ref (t 1), .int x]) ++ List.replicate (3 - (lg_sl ([.ref (t 1), .int x])).length) Slot.unset).toArray = ls at hl ⊢
  have hl : lv_has ls 3 [(0, .ref (t 1)), (1, .int x)] := hl
  refine lv_bipush (v := 24) hx hb dX5_takeInt_0 (by decide) ?_
  refine lv_istore_n (lv' := [(2, .int 24), (0, .ref (t 1)), (1, .int x)]) hx hb dX5_takeInt_2 rfl hl (by decide) rfl (fun ls hl => ?_)
  refine lv_iload_n hx hb dX5_takeInt_3 rfl (lv_at hl 0 rfl) ?_
  refine lv_if_lt (tgt := 46) hx hb dX5_takeInt_4 (by decide) (fun c9 => absurd c9 (by decide)) (fun _ => ?_)
  refine lv_aload_n hx hb dX5_takeInt_7 rfl (lv_at hl 1 rfl) ?_
  refine va_get (D := D) (ci := 4) (v := .int 8) (C := RX5) (T := TX5) (N := 10) hx hb hts inlX5 hown hK hP 0 rfl rfl 3 (by decide) (hts _ mw_120) (fun _ h9 => h9) rfl dX5_takeInt_8 ?_
  refine lv_sipush (v := 900) hx hb dX5_takeInt_11 (by decide) ?_
  refine lv_icmp_ge (tgt := 46) hx hb dX5_takeInt_14 (by decide) (fun c9 => absurd c9 (by decide)) (fun _ => ?_)
  refine lv_aload_n hx hb dX5_takeInt_17 rfl (lv_at hl 1 rfl) ?_
  refine va_get (D := D) (ci := 4) (v := .ref (t 8)) (C := RX5) (T := TX5) (N := 10) hx hb hts inlX5 hown hK hP 0 rfl rfl 4 (by decide) (hts _ mw_50) (fun _ h9 => h9) rfl dX5_takeInt_18 ?_
  refine lv_aload_n hx hb dX5_takeInt_21 rfl (lv_at hl 1 rfl) ?_
  refine va_get (D := D) (ci := 4) (v := .int 8) (C := RX5) (T := TX5) (N := 10) hx hb hts inlX5 hown hK hP 0 rfl rfl 3 (by decide) (hts _ mw_120) (fun _ h9 => h9) rfl dX5_takeInt_22 ?_
  refine lv_iload_n hx hb dX5_takeInt_25 rfl (lv_at hl 2 rfl) ?_
  refine lv_iload_n hx hb dX5_takeInt_26 rfl (lv_at hl 0 rfl) ?_
  refine lv_iushr hx hb dX5_takeInt_27 rfl ?_
  refine lv_topi (fun z_1 ez_1 => ?_)
  refine lv_i2b hx hb dX5_takeInt_28 rfl ?_
  refine lv_topi (fun z_2 ez_2 => ?_)
  refine va_bast hx hb hK hP hD hS 1 2 rfl rfl (vp_in_c (by decide)) dX5_takeInt_29 (fun H locs hP hD hS => ?_)
  have hP : va_P D vwCl [((t 1), .inr (4, [.ref (u 0), .int 0, .int (-1), .int 8, .ref (t 8), .int 0, .int 0, .int 0, .int 0, .int 0])), ((t 8), .inl (k 2, 900, .inl (upd f (8 : Int32).toNatClampNeg (vp_nar .byte z_2))))] H := hP
  have hD : va_D A [((t 1), .inr (4, [.ref (u 0), .int 0, .int (-1), .int 8, .ref (t 8), .int 0, .int 0, .int 0, .int 0, .int 0])), ((t 8), .inl (k 2, 900, .inl (upd f (8 : Int32).toNatClampNeg (vp_nar .byte z_2))))] := hD
  generalize ef_3 : (upd f (8 : Int32).toNatClampNeg (vp_nar .byte z_2)) = f_3 at hP hD
  refine lv_aload_n hx hb dX5_takeInt_30 rfl (lv_at hl 1 rfl) ?_
  refine lv_dup hx hb dX5_takeInt_31 rfl ?_
  refine va_get (D := D) (ci := 4) (v := .int 8) (C := RX5) (T := TX5) (N := 10) hx hb hts inlX5 hown hK hP 0 rfl rfl 3 (by decide) (hts _ mw_120) (fun _ h9 => h9) rfl dX5_takeInt_32 ?_
  refine lv_iconst (v := 1) hx hb dX5_takeInt_35 (by decide) ?_
  refine lv_iadd hx hb dX5_takeInt_36 ?_
  refine lv_ni (v := 9) (by decide) ?_
  refine va_put (D := D) (ci := 4) (v := .int 9) (ty := .int) (C := RX5) (T := TX5) (N := 10) hx hb hts inlX5 tyX5 tyX5_ok nmX5 hown hK hP hD hS 0 rfl rfl 3 (by decide) (hts _ mw_120) (fun _ h9 => h9) rfl (by decide +kernel) rfl rfl (Nat.le_of_ble_eq_true rfl) dX5_takeInt_37 (fun H locs hP hD hS => ?_)
  have hP : va_P D vwCl [((t 1), .inr (4, [.ref (u 0), .int 0, .int (-1), .int 9, .ref (t 8), .int 0, .int 0, .int 0, .int 0, .int 0])), ((t 8), .inl (k 2, 900, .inl f_3))] H := hP
  have hD : va_D A [((t 1), .inr (4, [.ref (u 0), .int 0, .int (-1), .int 9, .ref (t 8), .int 0, .int 0, .int 0, .int 0, .int 0])), ((t 8), .inl (k 2, 900, .inl f_3))] := hD
  refine lv_iinc (v := 16) (lv' := [(2, .int 16), (0, .ref (t 1)), (1, .int x)]) hx hb dX5_takeInt_40 hl (k := 0) rfl (by decide) (by decide) rfl (fun ls hl => ?_)
  refine lv_goto (tgt := 3) hx hb dX5_takeInt_43 (by decide) ?_
  refine lv_iload_n hx hb dX5_takeInt_3 rfl (lv_at hl 0 rfl) ?_
  refine lv_if_lt (tgt := 46) hx hb dX5_takeInt_4 (by decide) (fun c9 => absurd c9 (by decide)) (fun _ => ?_)
  refine lv_aload_n hx hb dX5_takeInt_7 rfl (lv_at hl 1 rfl) ?_
  refine va_get (D := D) (ci := 4) (v := .int 9) (C := RX5) (T := TX5) (N := 10) hx hb hts inlX5 hown hK hP 0 rfl rfl 3 (by decide) (hts _ mw_120) (fun _ h9 => h9) rfl dX5_takeInt_8 ?_
  refine lv_sipush (v := 900) hx hb dX5_takeInt_11 (by decide) ?_
  refine lv_icmp_ge (tgt := 46) hx hb dX5_takeInt_14 (by decide) (fun c9 => absurd c9 (by decide)) (fun _ => ?_)
  refine lv_aload_n hx hb dX5_takeInt_17 rfl (lv_at hl 1 rfl) ?_
  refine va_get (D := D) (ci := 4) (v := .ref (t 8)) (C := RX5) (T := TX5) (N := 10) hx hb hts inlX5 hown hK hP 0 rfl rfl 4 (by decide) (hts _ mw_50) (fun _ h9 => h9) rfl dX5_takeInt_18 ?_
  refine lv_aload_n hx hb dX5_takeInt_21 rfl (lv_at hl 1 rfl) ?_
  refine va_get (D := D) (ci := 4) (v := .int 9) (C := RX5) (T := TX5) (N := 10) hx hb hts inlX5 hown hK hP 0 rfl rfl 3 (by decide) (hts _ mw_120) (fun _ h9 => h9) rfl dX5_takeInt_22 ?_
  refine lv_iload_n hx hb dX5_takeInt_25 rfl (lv_at hl 2 rfl) ?_
  refine lv_iload_n hx hb dX5_takeInt_26 rfl (lv_at hl 0 rfl) ?_
  refine lv_iushr hx hb dX5_takeInt_27 rfl ?_
  refine lv_topi (fun z_4 ez_4 => ?_)
  refine lv_i2b hx hb dX5_takeInt_28 rfl ?_
  refine lv_topi (fun z_5 ez_5 => ?_)
  refine va_bast hx hb hK hP hD hS 1 2 rfl rfl (vp_in_c (by decide)) dX5_takeInt_29 (fun H locs hP hD hS => ?_)
  have hP : va_P D vwCl [((t 1), .inr (4, [.ref (u 0), .int 0, .int (-1), .int 9, .ref (t 8), .int 0, .int 0, .int 0, .int 0, .int 0])), ((t 8), .inl (k 2, 900, .inl (upd f_3 (9 : Int32).toNatClampNeg (vp_nar .byte z_5))))] H := hP
  have hD : va_D A [((t 1), .inr (4, [.ref (u 0), .int 0, .int (-1), .int 9, .ref (t 8), .int 0, .int 0, .int 0, .int 0, .int 0])), ((t 8), .inl (k 2, 900, .inl (upd f_3 (9 : Int32).toNatClampNeg (vp_nar .byte z_5))))] := hD
  generalize ef_6 : (upd f_3 (9 : Int32).toNatClampNeg (vp_nar .byte z_5)) = f_6 at hP hD
  refine lv_aload_n hx hb dX5_takeInt_30 rfl (lv_at hl 1 rfl) ?_
  refine lv_dup hx hb dX5_takeInt_31 rfl ?_
  refine va_get (D := D) (ci := 4) (v := .int 9) (C := RX5) (T := TX5) (N := 10) hx hb hts inlX5 hown hK hP 0 rfl rfl 3 (by decide) (hts _ mw_120) (fun _ h9 => h9) rfl dX5_takeInt_32 ?_
  refine lv_iconst (v := 1) hx hb dX5_takeInt_35 (by decide) ?_
  refine lv_iadd hx hb dX5_takeInt_36 ?_
  refine lv_ni (v := 10) (by decide) ?_
  refine va_put (D := D) (ci := 4) (v := .int 10) (ty := .int) (C := RX5) (T := TX5) (N := 10) hx hb hts inlX5 tyX5 tyX5_ok nmX5 hown hK hP hD hS 0 rfl rfl 3 (by decide) (hts _ mw_120) (fun _ h9 => h9) rfl (by decide +kernel) rfl rfl (Nat.le_of_ble_eq_true rfl) dX5_takeInt_37 (fun H locs hP hD hS => ?_)
  have hP : va_P D vwCl [((t 1), .inr (4, [.ref (u 0), .int 0, .int (-1), .int 10, .ref (t 8), .int 0, .int 0, .int 0, .int 0, .int 0])), ((t 8), .inl (k 2, 900, .inl f_6))] H := hP
  have hD : va_D A [((t 1), .inr (4, [.ref (u 0), .int 0, .int (-1), .int 10, .ref (t 8), .int 0, .int 0, .int 0, .int 0, .int 0])), ((t 8), .inl (k 2, 900, .inl f_6))] := hD
  refine lv_iinc (v := 8) (lv' := [(2, .int 8), (0, .ref (t 1)), (1, .int x)]) hx hb dX5_takeInt_40 hl (k := 0) rfl (by decide) (by decide) rfl (fun ls hl => ?_)
  refine lv_goto (tgt := 3) hx hb dX5_takeInt_43 (by decide) ?_
  refine lv_iload_n hx hb dX5_takeInt_3 rfl (lv_at hl 0 rfl) ?_
  refine lv_if_lt (tgt := 46) hx hb dX5_takeInt_4 (by decide) (fun c9 => absurd c9 (by decide)) (fun _ => ?_)
  refine lv_aload_n hx hb dX5_takeInt_7 rfl (lv_at hl 1 rfl) ?_
  refine va_get (D := D) (ci := 4) (v := .int 10) (C := RX5) (T := TX5) (N := 10) hx hb hts inlX5 hown hK hP 0 rfl rfl 3 (by decide) (hts _ mw_120) (fun _ h9 => h9) rfl dX5_takeInt_8 ?_
  refine lv_sipush (v := 900) hx hb dX5_takeInt_11 (by decide) ?_
  refine lv_icmp_ge (tgt := 46) hx hb dX5_takeInt_14 (by decide) (fun c9 => absurd c9 (by decide)) (fun _ => ?_)
  refine lv_aload_n hx hb dX5_takeInt_17 rfl (lv_at hl 1 rfl) ?_
  refine va_get (D := D) (ci := 4) (v := .ref (t 8)) (C := RX5) (T := TX5) (N := 10) hx hb hts inlX5 hown hK hP 0 rfl rfl 4 (by decide) (hts _ mw_50) (fun _ h9 => h9) rfl dX5_takeInt_18 ?_
  refine lv_aload_n hx hb dX5_takeInt_21 rfl (lv_at hl 1 rfl) ?_
  refine va_get (D := D) (ci := 4) (v := .int 10) (C := RX5) (T := TX5) (N := 10) hx hb hts inlX5 hown hK hP 0 rfl rfl 3 (by decide) (hts _ mw_120) (fun _ h9 => h9) rfl dX5_takeInt_22 ?_
  refine lv_iload_n hx hb dX5_takeInt_25 rfl (lv_at hl 2 rfl) ?_
  refine lv_iload_n hx hb dX5_takeInt_26 rfl (lv_at hl 0 rfl) ?_
  refine lv_iushr hx hb dX5_takeInt_27 rfl ?_
  refine lv_topi (fun z_7 ez_7 => ?_)
  refine lv_i2b hx hb dX5_takeInt_28 rfl ?_
  refine lv_topi (fun z_8 ez_8 => ?_)
  refine va_bast hx hb hK hP hD hS 1 2 rfl rfl (vp_in_c (by decide)) dX5_takeInt_29 (fun H locs hP hD hS => ?_)
  have hP : va_P D vwCl [((t 1), .inr (4, [.ref (u 0), .int 0, .int (-1), .int 10, .ref (t 8), .int 0, .int 0, .int 0, .int 0, .int 0])), ((t 8), .inl (k 2, 900, .inl (upd f_6 (10 : Int32).toNatClampNeg (vp_nar .byte z_8))))] H := hP
  have hD : va_D A [((t 1), .inr (4, [.ref (u 0), .int 0, .int (-1), .int 10, .ref (t 8), .int 0, .int 0, .int 0, .int 0, .int 0])), ((t 8), .inl (k 2, 900, .inl (upd f_6 (10 : Int32).toNatClampNeg (vp_nar .byte z_8))))] := hD
  generalize ef_9 : (upd f_6 (10 : Int32).toNatClampNeg (vp_nar .byte z_8)) = f_9 at hP hD
  refine lv_aload_n hx hb dX5_takeInt_30 rfl (lv_at hl 1 rfl) ?_
  refine lv_dup hx hb dX5_takeInt_31 rfl ?_
  refine va_get (D := D) (ci := 4) (v := .int 10) (C := RX5) (T := TX5) (N := 10) hx hb hts inlX5 hown hK hP 0 rfl rfl 3 (by decide) (hts _ mw_120) (fun _ h9 => h9) rfl dX5_takeInt_32 ?_
  refine lv_iconst (v := 1) hx hb dX5_takeInt_35 (by decide) ?_
  refine lv_iadd hx hb dX5_takeInt_36 ?_
  refine lv_ni (v := 11) (by decide) ?_
  refine va_put (D := D) (ci := 4) (v := .int 11) (ty := .int) (C := RX5) (T := TX5) (N := 10) hx hb hts inlX5 tyX5 tyX5_ok nmX5 hown hK hP hD hS 0 rfl rfl 3 (by decide) (hts _ mw_120) (fun _ h9 => h9) rfl (by decide +kernel) rfl rfl (Nat.le_of_ble_eq_true rfl) dX5_takeInt_37 (fun H locs hP hD hS => ?_)
  have hP : va_P D vwCl [((t 1), .inr (4, [.ref (u 0), .int 0, .int (-1), .int 11, .ref (t 8), .int 0, .int 0, .int 0, .int 0, .int 0])), ((t 8), .inl (k 2, 900, .inl f_9))] H := hP
  have hD : va_D A [((t 1), .inr (4, [.ref (u 0), .int 0, .int (-1), .int 11, .ref (t 8), .int 0, .int 0, .int 0, .int 0, .int 0])), ((t 8), .inl (k 2, 900, .inl f_9))] := hD
  refine lv_iinc (v := 0) (lv' := [(2, .int 0), (0, .ref (t 1)), (1, .int x)]) hx hb dX5_takeInt_40 hl (k := 0) rfl (by decide) (by decide) rfl (fun ls hl => ?_)
  refine lv_goto (tgt := 3) hx hb dX5_takeInt_43 (by decide) ?_
  refine lv_iload_n hx hb dX5_takeInt_3 rfl (lv_at hl 0 rfl) ?_
  refine lv_if_lt (tgt := 46) hx hb dX5_takeInt_4 (by decide) (fun c9 => absurd c9 (by decide)) (fun _ => ?_)
  refine lv_aload_n hx hb dX5_takeInt_7 rfl (lv_at hl 1 rfl) ?_
  refine va_get (D := D) (ci := 4) (v := .int 11) (C := RX5) (T := TX5) (N := 10) hx hb hts inlX5 hown hK hP 0 rfl rfl 3 (by decide) (hts _ mw_120) (fun _ h9 => h9) rfl dX5_takeInt_8 ?_
  refine lv_sipush (v := 900) hx hb dX5_takeInt_11 (by decide) ?_
  refine lv_icmp_ge (tgt := 46) hx hb dX5_takeInt_14 (by decide) (fun c9 => absurd c9 (by decide)) (fun _ => ?_)
  refine lv_aload_n hx hb dX5_takeInt_17 rfl (lv_at hl 1 rfl) ?_
  refine va_get (D := D) (ci := 4) (v := .ref (t 8)) (C := RX5) (T := TX5) (N := 10) hx hb hts inlX5 hown hK hP 0 rfl rfl 4 (by decide) (hts _ mw_50) (fun _ h9 => h9) rfl dX5_takeInt_18 ?_
  refine lv_aload_n hx hb dX5_takeInt_21 rfl (lv_at hl 1 rfl) ?_
  refine va_get (D := D) (ci := 4) (v := .int 11) (C := RX5) (T := TX5) (N := 10) hx hb hts inlX5 hown hK hP 0 rfl rfl 3 (by decide) (hts _ mw_120) (fun _ h9 => h9) rfl dX5_takeInt_22 ?_
  refine lv_iload_n hx hb dX5_takeInt_25 rfl (lv_at hl 2 rfl) ?_
  refine lv_iload_n hx hb dX5_takeInt_26 rfl (lv_at hl 0 rfl) ?_
  refine lv_iushr hx hb dX5_takeInt_27 rfl ?_
  refine lv_topi (fun z_10 ez_10 => ?_)
  refine lv_i2b hx hb dX5_takeInt_28 rfl ?_
  refine lv_topi (fun z_11 ez_11 => ?_)
  refine va_bast hx hb hK hP hD hS 1 2 rfl rfl (vp_in_c (by decide)) dX5_takeInt_29 (fun H locs hP hD hS => ?_)
  have hP : va_P D vwCl [((t 1), .inr (4, [.ref (u 0), .int 0, .int (-1), .int 11, .ref (t 8), .int 0, .int 0, .int 0, .int 0, .int 0])), ((t 8), .inl (k 2, 900, .inl (upd f_9 (11 : Int32).toNatClampNeg (vp_nar .byte z_11))))] H := hP
  have hD : va_D A [((t 1), .inr (4, [.ref (u 0), .int 0, .int (-1), .int 11, .ref (t 8), .int 0, .int 0, .int 0, .int 0, .int 0])), ((t 8), .inl (k 2, 900, .inl (upd f_9 (11 : Int32).toNatClampNeg (vp_nar .byte z_11))))] := hD
  generalize ef_12 : (upd f_9 (11 : Int32).toNatClampNeg (vp_nar .byte z_11)) = f_12 at hP hD
  refine lv_aload_n hx hb dX5_takeInt_30 rfl (lv_at hl 1 rfl) ?_
  refine lv_dup hx hb dX5_takeInt_31 rfl ?_
  refine va_get (D := D) (ci := 4) (v := .int 11) (C := RX5) (T := TX5) (N := 10) hx hb hts inlX5 hown hK hP 0 rfl rfl 3 (by decide) (hts _ mw_120) (fun _ h9 => h9) rfl dX5_takeInt_32 ?_
  refine lv_iconst (v := 1) hx hb dX5_takeInt_35 (by decide) ?_
  refine lv_iadd hx hb dX5_takeInt_36 ?_
  refine lv_ni (v := 12) (by decide) ?_
  refine va_put (D := D) (ci := 4) (v := .int 12) (ty := .int) (C := RX5) (T := TX5) (N := 10) hx hb hts inlX5 tyX5 tyX5_ok nmX5 hown hK hP hD hS 0 rfl rfl 3 (by decide) (hts _ mw_120) (fun _ h9 => h9) rfl (by decide +kernel) rfl rfl (Nat.le_of_ble_eq_true rfl) dX5_takeInt_37 (fun H locs hP hD hS => ?_)
  have hP : va_P D vwCl [((t 1), .inr (4, [.ref (u 0), .int 0, .int (-1), .int 12, .ref (t 8), .int 0, .int 0, .int 0, .int 0, .int 0])), ((t 8), .inl (k 2, 900, .inl f_12))] H := hP
  have hD : va_D A [((t 1), .inr (4, [.ref (u 0), .int 0, .int (-1), .int 12, .ref (t 8), .int 0, .int 0, .int 0, .int 0, .int 0])), ((t 8), .inl (k 2, 900, .inl f_12))] := hD
  refine lv_iinc (v := (-8)) (lv' := [(2, .int (-8)), (0, .ref (t 1)), (1, .int x)]) hx hb dX5_takeInt_40 hl (k := 0) rfl (by decide) (by decide) rfl (fun ls hl => ?_)
  refine lv_goto (tgt := 3) hx hb dX5_takeInt_43 (by decide) ?_
  refine lv_iload_n hx hb dX5_takeInt_3 rfl (lv_at hl 0 rfl) ?_
  refine lv_if_lt (tgt := 46) hx hb dX5_takeInt_4 (by decide) (fun _ => ?_) (fun c9 => absurd c9 (by decide))
  have hP9 := hP.sub (ws' := [((t 1), .inr (4, [.ref (u 0), .int 0, .int (-1), .int 12, .ref (t 8), .int 0, .int 0, .int 0, .int 0, .int 0])), ((t 8), .inl (k 2, 900, .inl f_12))]) [0, 1] rfl
  have hD9 := hD.sub (ws' := [((t 1), .inr (4, [.ref (u 0), .int 0, .int (-1), .int 12, .ref (t 8), .int 0, .int 0, .int 0, .int 0, .int 0])), ((t 8), .inl (k 2, 900, .inl f_12))]) [0, 1] (by decide) rfl
  exact W.vret hx hb hr (fun t ht hW => ⟨⟨(f_12), rfl, trivial, by rw [ht]; exact hP9, hD9⟩, hS.F ht⟩) hS.2.2 dX5_takeInt_46
set_option maxHeartbeats 4000000 in
set_option maxRecDepth 100000 in
theorem c_R_takeInt12 (l : Launch) (D : va_G) (k : Nat → ClassId) (t : Nat → Nat) (u : Nat → Nat) (f : Nat → Int32) (x : Int32) (sz : Nat) : Met l yX5_takeInt (Cond.code yX5_takeInt cX5_takeInt 3 none :: wsL_law) ({ frames := 0, cells := 0, slots := 0, locals := 0 } : Room) (va_Pc [.ref (t 1), .int x] (pu D k sz [((t 1), .inr (4, [.ref (u 0), .int 0, .int (-1), .int 12, .ref (t 8), .int 0, .int 0, .int 0, .int 0, .int 0])), ((t 8), .inl (k 2, 900, .inl f))])) (va_Qv (fun uu : Nat → Int32 => True) (qu D (va_A [((t 1), .inr (4, [.ref (u 0), .int 0, .int (-1), .int 12, .ref (t 8), .int 0, .int 0, .int 0, .int 0, .int 0])), ((t 8), .inl (k 2, 900, .inl f))] sz) (fun uu : Nat → Int32 => [((t 1), .inr (4, [.ref (u 0), .int 0, .int (-1), .int 16, .ref (t 8), .int 0, .int 0, .int 0, .int 0, .int 0])), ((t 8), .inl (k 2, 900, .inl uu))])) (va_A [((t 1), .inr (4, [.ref (u 0), .int 0, .int (-1), .int 12, .ref (t 8), .int 0, .int 0, .int 0, .int 0, .int 0])), ((t 8), .inl (k 2, 900, .inl f))] sz)) 0 0 (va_A [((t 1), .inr (4, [.ref (u 0), .int 0, .int (-1), .int 12, .ref (t 8), .int 0, .int 0, .int 0, .int 0, .int 0])), ((t 8), .inl (k 2, 900, .inl f))] sz) := by
  refine Met.ofW (cc := cX5_takeInt) (maxL := 3) (ret := none) (by decide) rfl ?_
  intro p e s m args below meth c s₁ B hml hv
  obtain ⟨rfl, hsz, hP, hK, hD0⟩ := hv
  have hx := B.exec
  have hb := B.bytes
  have hr := B.returns
  have hts : ∀ w ∈ wsL_law, w.before _ s = true := fun w h => atoms_spec (ws := Cond.code yX5_takeInt cX5_takeInt 3 none :: wsL_law) B.pre w (List.mem_cons_of_mem _ h)
  have hown : s.vm.findClass RX5 = some m.cls := findClass_of_methodNamed B.named
  have hlocks := B.notSynchronized
  subst hsz
  have hD := hD0.self (sz := s.heap.size)
  generalize hAe : va_A [((t 1), .inr (4, [.ref (u 0), .int 0, .int (-1), .int 12, .ref (t 8), .int 0, .int 0, .int 0, .int 0, .int 0])), ((t 8), .inl (k 2, 900, .inl f))] s.heap.size = A at hD ⊢
  have hA : ∀ q : Nat, s.heap.size ≤ q → A q := fun q h => by rw [← hAe]; exact Or.inr h
  have hS : va_S A s.heap s.heap [] := va_S.rf
  have hP : va_P D vwCl [((t 1), .inr (4, [.ref (u 0), .int 0, .int (-1), .int 12, .ref (t 8), .int 0, .int 0, .int 0, .int 0, .int 0])), ((t 8), .inl (k 2, 900, .inl f))] s.heap := hP
  have hl := lv_entry ([.ref (t 1), .int x]) (n := 3) (Nat.le_of_ble_eq_true rfl)
  rw [lg_entry_eq]
  generalize (lg_sl ([.ref (t 1), .int x]) ++ List.replicate (3 - (lg_sl ([.ref (t 1), .int x])).length) Slot.unset).toArray = ls at hl ⊢
  have hl : lv_has ls 3 [(0, .ref (t 1)), (1, .int x)] := hl
  refine lv_bipush (v := 24) hx hb dX5_takeInt_0 (by decide) ?_
  refine lv_istore_n (lv' := [(2, .int 24), (0, .ref (t 1)), (1, .int x)]) hx hb dX5_takeInt_2 rfl hl (by decide) rfl (fun ls hl => ?_)
  refine lv_iload_n hx hb dX5_takeInt_3 rfl (lv_at hl 0 rfl) ?_
  refine lv_if_lt (tgt := 46) hx hb dX5_takeInt_4 (by decide) (fun c9 => absurd c9 (by decide)) (fun _ => ?_)
  refine lv_aload_n hx hb dX5_takeInt_7 rfl (lv_at hl 1 rfl) ?_
  refine va_get (D := D) (ci := 4) (v := .int 12) (C := RX5) (T := TX5) (N := 10) hx hb hts inlX5 hown hK hP 0 rfl rfl 3 (by decide) (hts _ mw_120) (fun _ h9 => h9) rfl dX5_takeInt_8 ?_
  refine lv_sipush (v := 900) hx hb dX5_takeInt_11 (by decide) ?_
  refine lv_icmp_ge (tgt := 46) hx hb dX5_takeInt_14 (by decide) (fun c9 => absurd c9 (by decide)) (fun _ => ?_)
  refine lv_aload_n hx hb dX5_takeInt_17 rfl (lv_at hl 1 rfl) ?_
  refine va_get (D := D) (ci := 4) (v := .ref (t 8)) (C := RX5) (T := TX5) (N := 10) hx hb hts inlX5 hown hK hP 0 rfl rfl 4 (by decide) (hts _ mw_50) (fun _ h9 => h9) rfl dX5_takeInt_18 ?_
  refine lv_aload_n hx hb dX5_takeInt_21 rfl (lv_at hl 1 rfl) ?_
  refine va_get (D := D) (ci := 4) (v := .int 12) (C := RX5) (T := TX5) (N := 10) hx hb hts inlX5 hown hK hP 0 rfl rfl 3 (by decide) (hts _ mw_120) (fun _ h9 => h9) rfl dX5_takeInt_22 ?_
  refine lv_iload_n hx hb dX5_takeInt_25 rfl (lv_at hl 2 rfl) ?_
  refine lv_iload_n hx hb dX5_takeInt_26 rfl (lv_at hl 0 rfl) ?_
  refine lv_iushr hx hb dX5_takeInt_27 rfl ?_
  refine lv_topi (fun z_1 ez_1 => ?_)
  refine lv_i2b hx hb dX5_takeInt_28 rfl ?_
  refine lv_topi (fun z_2 ez_2 => ?_)
  refine va_bast hx hb hK hP hD hS 1 2 rfl rfl (vp_in_c (by decide)) dX5_takeInt_29 (fun H locs hP hD hS => ?_)
  have hP : va_P D vwCl [((t 1), .inr (4, [.ref (u 0), .int 0, .int (-1), .int 12, .ref (t 8), .int 0, .int 0, .int 0, .int 0, .int 0])), ((t 8), .inl (k 2, 900, .inl (upd f (12 : Int32).toNatClampNeg (vp_nar .byte z_2))))] H := hP
  have hD : va_D A [((t 1), .inr (4, [.ref (u 0), .int 0, .int (-1), .int 12, .ref (t 8), .int 0, .int 0, .int 0, .int 0, .int 0])), ((t 8), .inl (k 2, 900, .inl (upd f (12 : Int32).toNatClampNeg (vp_nar .byte z_2))))] := hD
  generalize ef_3 : (upd f (12 : Int32).toNatClampNeg (vp_nar .byte z_2)) = f_3 at hP hD
  refine lv_aload_n hx hb dX5_takeInt_30 rfl (lv_at hl 1 rfl) ?_
  refine lv_dup hx hb dX5_takeInt_31 rfl ?_
  refine va_get (D := D) (ci := 4) (v := .int 12) (C := RX5) (T := TX5) (N := 10) hx hb hts inlX5 hown hK hP 0 rfl rfl 3 (by decide) (hts _ mw_120) (fun _ h9 => h9) rfl dX5_takeInt_32 ?_
  refine lv_iconst (v := 1) hx hb dX5_takeInt_35 (by decide) ?_
  refine lv_iadd hx hb dX5_takeInt_36 ?_
  refine lv_ni (v := 13) (by decide) ?_
  refine va_put (D := D) (ci := 4) (v := .int 13) (ty := .int) (C := RX5) (T := TX5) (N := 10) hx hb hts inlX5 tyX5 tyX5_ok nmX5 hown hK hP hD hS 0 rfl rfl 3 (by decide) (hts _ mw_120) (fun _ h9 => h9) rfl (by decide +kernel) rfl rfl (Nat.le_of_ble_eq_true rfl) dX5_takeInt_37 (fun H locs hP hD hS => ?_)
  have hP : va_P D vwCl [((t 1), .inr (4, [.ref (u 0), .int 0, .int (-1), .int 13, .ref (t 8), .int 0, .int 0, .int 0, .int 0, .int 0])), ((t 8), .inl (k 2, 900, .inl f_3))] H := hP
  have hD : va_D A [((t 1), .inr (4, [.ref (u 0), .int 0, .int (-1), .int 13, .ref (t 8), .int 0, .int 0, .int 0, .int 0, .int 0])), ((t 8), .inl (k 2, 900, .inl f_3))] := hD
  refine lv_iinc (v := 16) (lv' := [(2, .int 16), (0, .ref (t 1)), (1, .int x)]) hx hb dX5_takeInt_40 hl (k := 0) rfl (by decide) (by decide) rfl (fun ls hl => ?_)
  refine lv_goto (tgt := 3) hx hb dX5_takeInt_43 (by decide) ?_
  refine lv_iload_n hx hb dX5_takeInt_3 rfl (lv_at hl 0 rfl) ?_
  refine lv_if_lt (tgt := 46) hx hb dX5_takeInt_4 (by decide) (fun c9 => absurd c9 (by decide)) (fun _ => ?_)
  refine lv_aload_n hx hb dX5_takeInt_7 rfl (lv_at hl 1 rfl) ?_
  refine va_get (D := D) (ci := 4) (v := .int 13) (C := RX5) (T := TX5) (N := 10) hx hb hts inlX5 hown hK hP 0 rfl rfl 3 (by decide) (hts _ mw_120) (fun _ h9 => h9) rfl dX5_takeInt_8 ?_
  refine lv_sipush (v := 900) hx hb dX5_takeInt_11 (by decide) ?_
  refine lv_icmp_ge (tgt := 46) hx hb dX5_takeInt_14 (by decide) (fun c9 => absurd c9 (by decide)) (fun _ => ?_)
  refine lv_aload_n hx hb dX5_takeInt_17 rfl (lv_at hl 1 rfl) ?_
  refine va_get (D := D) (ci := 4) (v := .ref (t 8)) (C := RX5) (T := TX5) (N := 10) hx hb hts inlX5 hown hK hP 0 rfl rfl 4 (by decide) (hts _ mw_50) (fun _ h9 => h9) rfl dX5_takeInt_18 ?_
  refine lv_aload_n hx hb dX5_takeInt_21 rfl (lv_at hl 1 rfl) ?_
  refine va_get (D := D) (ci := 4) (v := .int 13) (C := RX5) (T := TX5) (N := 10) hx hb hts inlX5 hown hK hP 0 rfl rfl 3 (by decide) (hts _ mw_120) (fun _ h9 => h9) rfl dX5_takeInt_22 ?_
  refine lv_iload_n hx hb dX5_takeInt_25 rfl (lv_at hl 2 rfl) ?_
  refine lv_iload_n hx hb dX5_takeInt_26 rfl (lv_at hl 0 rfl) ?_
  refine lv_iushr hx hb dX5_takeInt_27 rfl ?_
  refine lv_topi (fun z_4 ez_4 => ?_)
  refine lv_i2b hx hb dX5_takeInt_28 rfl ?_
  refine lv_topi (fun z_5 ez_5 => ?_)
  refine va_bast hx hb hK hP hD hS 1 2 rfl rfl (vp_in_c (by decide)) dX5_takeInt_29 (fun H locs hP hD hS => ?_)
  have hP : va_P D vwCl [((t 1), .inr (4, [.ref (u 0), .int 0, .int (-1), .int 13, .ref (t 8), .int 0, .int 0, .int 0, .int 0, .int 0])), ((t 8), .inl (k 2, 900, .inl (upd f_3 (13 : Int32).toNatClampNeg (vp_nar .byte z_5))))] H := hP
  have hD : va_D A [((t 1), .inr (4, [.ref (u 0), .int 0, .int (-1), .int 13, .ref (t 8), .int 0, .int 0, .int 0, .int 0, .int 0])), ((t 8), .inl (k 2, 900, .inl (upd f_3 (13 : Int32).toNatClampNeg (vp_nar .byte z_5))))] := hD
  generalize ef_6 : (upd f_3 (13 : Int32).toNatClampNeg (vp_nar .byte z_5)) = f_6 at hP hD
  refine lv_aload_n hx hb dX5_takeInt_30 rfl (lv_at hl 1 rfl) ?_
  refine lv_dup hx hb dX5_takeInt_31 rfl ?_
  refine va_get (D := D) (ci := 4) (v := .int 13) (C := RX5) (T := TX5) (N := 10) hx hb hts inlX5 hown hK hP 0 rfl rfl 3 (by decide) (hts _ mw_120) (fun _ h9 => h9) rfl dX5_takeInt_32 ?_
  refine lv_iconst (v := 1) hx hb dX5_takeInt_35 (by decide) ?_
  refine lv_iadd hx hb dX5_takeInt_36 ?_
  refine lv_ni (v := 14) (by decide) ?_
  refine va_put (D := D) (ci := 4) (v := .int 14) (ty := .int) (C := RX5) (T := TX5) (N := 10) hx hb hts inlX5 tyX5 tyX5_ok nmX5 hown hK hP hD hS 0 rfl rfl 3 (by decide) (hts _ mw_120) (fun _ h9 => h9) rfl (by decide +kernel) rfl rfl (Nat.le_of_ble_eq_true rfl) dX5_takeInt_37 (fun H locs hP hD hS => ?_)
  have hP : va_P D vwCl [((t 1), .inr (4, [.ref (u 0), .int 0, .int (-1), .int 14, .ref (t 8), .int 0, .int 0, .int 0, .int 0, .int 0])), ((t 8), .inl (k 2, 900, .inl f_6))] H := hP
  have hD : va_D A [((t 1), .inr (4, [.ref (u 0), .int 0, .int (-1), .int 14, .ref (t 8), .int 0, .int 0, .int 0, .int 0, .int 0])), ((t 8), .inl (k 2, 900, .inl f_6))] := hD
  refine lv_iinc (v := 8) (lv' := [(2, .int 8), (0, .ref (t 1)), (1, .int x)]) hx hb dX5_takeInt_40 hl (k := 0) rfl (by decide) (by decide) rfl (fun ls hl => ?_)
  refine lv_goto (tgt := 3) hx hb dX5_takeInt_43 (by decide) ?_
  refine lv_iload_n hx hb dX5_takeInt_3 rfl (lv_at hl 0 rfl) ?_
  refine lv_if_lt (tgt := 46) hx hb dX5_takeInt_4 (by decide) (fun c9 => absurd c9 (by decide)) (fun _ => ?_)
  refine lv_aload_n hx hb dX5_takeInt_7 rfl (lv_at hl 1 rfl) ?_
  refine va_get (D := D) (ci := 4) (v := .int 14) (C := RX5) (T := TX5) (N := 10) hx hb hts inlX5 hown hK hP 0 rfl rfl 3 (by decide) (hts _ mw_120) (fun _ h9 => h9) rfl dX5_takeInt_8 ?_
  refine lv_sipush (v := 900) hx hb dX5_takeInt_11 (by decide) ?_
  refine lv_icmp_ge (tgt := 46) hx hb dX5_takeInt_14 (by decide) (fun c9 => absurd c9 (by decide)) (fun _ => ?_)
  refine lv_aload_n hx hb dX5_takeInt_17 rfl (lv_at hl 1 rfl) ?_
  refine va_get (D := D) (ci := 4) (v := .ref (t 8)) (C := RX5) (T := TX5) (N := 10) hx hb hts inlX5 hown hK hP 0 rfl rfl 4 (by decide) (hts _ mw_50) (fun _ h9 => h9) rfl dX5_takeInt_18 ?_
  refine lv_aload_n hx hb dX5_takeInt_21 rfl (lv_at hl 1 rfl) ?_
  refine va_get (D := D) (ci := 4) (v := .int 14) (C := RX5) (T := TX5) (N := 10) hx hb hts inlX5 hown hK hP 0 rfl rfl 3 (by decide) (hts _ mw_120) (fun _ h9 => h9) rfl dX5_takeInt_22 ?_
  refine lv_iload_n hx hb dX5_takeInt_25 rfl (lv_at hl 2 rfl) ?_
  refine lv_iload_n hx hb dX5_takeInt_26 rfl (lv_at hl 0 rfl) ?_
  refine lv_iushr hx hb dX5_takeInt_27 rfl ?_
  refine lv_topi (fun z_7 ez_7 => ?_)
  refine lv_i2b hx hb dX5_takeInt_28 rfl ?_
  refine lv_topi (fun z_8 ez_8 => ?_)
  refine va_bast hx hb hK hP hD hS 1 2 rfl rfl (vp_in_c (by decide)) dX5_takeInt_29 (fun H locs hP hD hS => ?_)
  have hP : va_P D vwCl [((t 1), .inr (4, [.ref (u 0), .int 0, .int (-1), .int 14, .ref (t 8), .int 0, .int 0, .int 0, .int 0, .int 0])), ((t 8), .inl (k 2, 900, .inl (upd f_6 (14 : Int32).toNatClampNeg (vp_nar .byte z_8))))] H := hP
  have hD : va_D A [((t 1), .inr (4, [.ref (u 0), .int 0, .int (-1), .int 14, .ref (t 8), .int 0, .int 0, .int 0, .int 0, .int 0])), ((t 8), .inl (k 2, 900, .inl (upd f_6 (14 : Int32).toNatClampNeg (vp_nar .byte z_8))))] := hD
  generalize ef_9 : (upd f_6 (14 : Int32).toNatClampNeg (vp_nar .byte z_8)) = f_9 at hP hD
  refine lv_aload_n hx hb dX5_takeInt_30 rfl (lv_at hl 1 rfl) ?_
  refine lv_dup hx hb dX5_takeInt_31 rfl ?_
  refine va_get (D := D) (ci := 4) (v := .int 14) (C := RX5) (T := TX5) (N := 10) hx hb hts inlX5 hown hK hP 0 rfl rfl 3 (by decide) (hts _ mw_120) (fun _ h9 => h9) rfl dX5_takeInt_32 ?_
  refine lv_iconst (v := 1) hx hb dX5_takeInt_35 (by decide) ?_
  refine lv_iadd hx hb dX5_takeInt_36 ?_
  refine lv_ni (v := 15) (by decide) ?_
  refine va_put (D := D) (ci := 4) (v := .int 15) (ty := .int) (C := RX5) (T := TX5) (N := 10) hx hb hts inlX5 tyX5 tyX5_ok nmX5 hown hK hP hD hS 0 rfl rfl 3 (by decide) (hts _ mw_120) (fun _ h9 => h9) rfl (by decide +kernel) rfl rfl (Nat.le_of_ble_eq_true rfl) dX5_takeInt_37 (fun H locs hP hD hS => ?_)
  have hP : va_P D vwCl [((t 1), .inr (4, [.ref (u 0), .int 0, .int (-1), .int 15, .ref (t 8), .int 0, .int 0, .int 0, .int 0, .int 0])), ((t 8), .inl (k 2, 900, .inl f_9))] H := hP
  have hD : va_D A [((t 1), .inr (4, [.ref (u 0), .int 0, .int (-1), .int 15, .ref (t 8), .int 0, .int 0, .int 0, .int 0, .int 0])), ((t 8), .inl (k 2, 900, .inl f_9))] := hD
  refine lv_iinc (v := 0) (lv' := [(2, .int 0), (0, .ref (t 1)), (1, .int x)]) hx hb dX5_takeInt_40 hl (k := 0) rfl (by decide) (by decide) rfl (fun ls hl => ?_)
  refine lv_goto (tgt := 3) hx hb dX5_takeInt_43 (by decide) ?_
  refine lv_iload_n hx hb dX5_takeInt_3 rfl (lv_at hl 0 rfl) ?_
  refine lv_if_lt (tgt := 46) hx hb dX5_takeInt_4 (by decide) (fun c9 => absurd c9 (by decide)) (fun _ => ?_)
  refine lv_aload_n hx hb dX5_takeInt_7 rfl (lv_at hl 1 rfl) ?_
  refine va_get (D := D) (ci := 4) (v := .int 15) (C := RX5) (T := TX5) (N := 10) hx hb hts inlX5 hown hK hP 0 rfl rfl 3 (by decide) (hts _ mw_120) (fun _ h9 => h9) rfl dX5_takeInt_8 ?_
  refine lv_sipush (v := 900) hx hb dX5_takeInt_11 (by decide) ?_
  refine lv_icmp_ge (tgt := 46) hx hb dX5_takeInt_14 (by decide) (fun c9 => absurd c9 (by decide)) (fun _ => ?_)
  refine lv_aload_n hx hb dX5_takeInt_17 rfl (lv_at hl 1 rfl) ?_
  refine va_get (D := D) (ci := 4) (v := .ref (t 8)) (C := RX5) (T := TX5) (N := 10) hx hb hts inlX5 hown hK hP 0 rfl rfl 4 (by decide) (hts _ mw_50) (fun _ h9 => h9) rfl dX5_takeInt_18 ?_
  refine lv_aload_n hx hb dX5_takeInt_21 rfl (lv_at hl 1 rfl) ?_
  refine va_get (D := D) (ci := 4) (v := .int 15) (C := RX5) (T := TX5) (N := 10) hx hb hts inlX5 hown hK hP 0 rfl rfl 3 (by decide) (hts _ mw_120) (fun _ h9 => h9) rfl dX5_takeInt_22 ?_
  refine lv_iload_n hx hb dX5_takeInt_25 rfl (lv_at hl 2 rfl) ?_
  refine lv_iload_n hx hb dX5_takeInt_26 rfl (lv_at hl 0 rfl) ?_
  refine lv_iushr hx hb dX5_takeInt_27 rfl ?_
  refine lv_topi (fun z_10 ez_10 => ?_)
  refine lv_i2b hx hb dX5_takeInt_28 rfl ?_
  refine lv_topi (fun z_11 ez_11 => ?_)
  refine va_bast hx hb hK hP hD hS 1 2 rfl rfl (vp_in_c (by decide)) dX5_takeInt_29 (fun H locs hP hD hS => ?_)
  have hP : va_P D vwCl [((t 1), .inr (4, [.ref (u 0), .int 0, .int (-1), .int 15, .ref (t 8), .int 0, .int 0, .int 0, .int 0, .int 0])), ((t 8), .inl (k 2, 900, .inl (upd f_9 (15 : Int32).toNatClampNeg (vp_nar .byte z_11))))] H := hP
  have hD : va_D A [((t 1), .inr (4, [.ref (u 0), .int 0, .int (-1), .int 15, .ref (t 8), .int 0, .int 0, .int 0, .int 0, .int 0])), ((t 8), .inl (k 2, 900, .inl (upd f_9 (15 : Int32).toNatClampNeg (vp_nar .byte z_11))))] := hD
  generalize ef_12 : (upd f_9 (15 : Int32).toNatClampNeg (vp_nar .byte z_11)) = f_12 at hP hD
  refine lv_aload_n hx hb dX5_takeInt_30 rfl (lv_at hl 1 rfl) ?_
  refine lv_dup hx hb dX5_takeInt_31 rfl ?_
  refine va_get (D := D) (ci := 4) (v := .int 15) (C := RX5) (T := TX5) (N := 10) hx hb hts inlX5 hown hK hP 0 rfl rfl 3 (by decide) (hts _ mw_120) (fun _ h9 => h9) rfl dX5_takeInt_32 ?_
  refine lv_iconst (v := 1) hx hb dX5_takeInt_35 (by decide) ?_
  refine lv_iadd hx hb dX5_takeInt_36 ?_
  refine lv_ni (v := 16) (by decide) ?_
  refine va_put (D := D) (ci := 4) (v := .int 16) (ty := .int) (C := RX5) (T := TX5) (N := 10) hx hb hts inlX5 tyX5 tyX5_ok nmX5 hown hK hP hD hS 0 rfl rfl 3 (by decide) (hts _ mw_120) (fun _ h9 => h9) rfl (by decide +kernel) rfl rfl (Nat.le_of_ble_eq_true rfl) dX5_takeInt_37 (fun H locs hP hD hS => ?_)
  have hP : va_P D vwCl [((t 1), .inr (4, [.ref (u 0), .int 0, .int (-1), .int 16, .ref (t 8), .int 0, .int 0, .int 0, .int 0, .int 0])), ((t 8), .inl (k 2, 900, .inl f_12))] H := hP
  have hD : va_D A [((t 1), .inr (4, [.ref (u 0), .int 0, .int (-1), .int 16, .ref (t 8), .int 0, .int 0, .int 0, .int 0, .int 0])), ((t 8), .inl (k 2, 900, .inl f_12))] := hD
  refine lv_iinc (v := (-8)) (lv' := [(2, .int (-8)), (0, .ref (t 1)), (1, .int x)]) hx hb dX5_takeInt_40 hl (k := 0) rfl (by decide) (by decide) rfl (fun ls hl => ?_)
  refine lv_goto (tgt := 3) hx hb dX5_takeInt_43 (by decide) ?_
  refine lv_iload_n hx hb dX5_takeInt_3 rfl (lv_at hl 0 rfl) ?_
  refine lv_if_lt (tgt := 46) hx hb dX5_takeInt_4 (by decide) (fun _ => ?_) (fun c9 => absurd c9 (by decide))
  have hP9 := hP.sub (ws' := [((t 1), .inr (4, [.ref (u 0), .int 0, .int (-1), .int 16, .ref (t 8), .int 0, .int 0, .int 0, .int 0, .int 0])), ((t 8), .inl (k 2, 900, .inl f_12))]) [0, 1] rfl
  have hD9 := hD.sub (ws' := [((t 1), .inr (4, [.ref (u 0), .int 0, .int (-1), .int 16, .ref (t 8), .int 0, .int 0, .int 0, .int 0, .int 0])), ((t 8), .inl (k 2, 900, .inl f_12))]) [0, 1] (by decide) rfl
  exact W.vret hx hb hr (fun t ht hW => ⟨⟨(f_12), rfl, trivial, by rw [ht]; exact hP9, hD9⟩, hS.F ht⟩) hS.2.2 dX5_takeInt_46
set_option maxHeartbeats 4000000 in
set_option maxRecDepth 100000 in
theorem c_R_takeInt16 (l : Launch) (D : va_G) (k : Nat → ClassId) (t : Nat → Nat) (u : Nat → Nat) (f : Nat → Int32) (x : Int32) (sz : Nat) : Met l yX5_takeInt (Cond.code yX5_takeInt cX5_takeInt 3 none :: wsL_law) ({ frames := 0, cells := 0, slots := 0, locals := 0 } : Room) (va_Pc [.ref (t 1), .int x] (pu D k sz [((t 1), .inr (4, [.ref (u 0), .int 0, .int (-1), .int 16, .ref (t 8), .int 0, .int 0, .int 0, .int 0, .int 0])), ((t 8), .inl (k 2, 900, .inl f))])) (va_Qv (fun uu : Nat → Int32 => True) (qu D (va_A [((t 1), .inr (4, [.ref (u 0), .int 0, .int (-1), .int 16, .ref (t 8), .int 0, .int 0, .int 0, .int 0, .int 0])), ((t 8), .inl (k 2, 900, .inl f))] sz) (fun uu : Nat → Int32 => [((t 1), .inr (4, [.ref (u 0), .int 0, .int (-1), .int 20, .ref (t 8), .int 0, .int 0, .int 0, .int 0, .int 0])), ((t 8), .inl (k 2, 900, .inl uu))])) (va_A [((t 1), .inr (4, [.ref (u 0), .int 0, .int (-1), .int 16, .ref (t 8), .int 0, .int 0, .int 0, .int 0, .int 0])), ((t 8), .inl (k 2, 900, .inl f))] sz)) 0 0 (va_A [((t 1), .inr (4, [.ref (u 0), .int 0, .int (-1), .int 16, .ref (t 8), .int 0, .int 0, .int 0, .int 0, .int 0])), ((t 8), .inl (k 2, 900, .inl f))] sz) := by
  refine Met.ofW (cc := cX5_takeInt) (maxL := 3) (ret := none) (by decide) rfl ?_
  intro p e s m args below meth c s₁ B hml hv
  obtain ⟨rfl, hsz, hP, hK, hD0⟩ := hv
  have hx := B.exec
  have hb := B.bytes
  have hr := B.returns
  have hts : ∀ w ∈ wsL_law, w.before _ s = true := fun w h => atoms_spec (ws := Cond.code yX5_takeInt cX5_takeInt 3 none :: wsL_law) B.pre w (List.mem_cons_of_mem _ h)
  have hown : s.vm.findClass RX5 = some m.cls := findClass_of_methodNamed B.named
  have hlocks := B.notSynchronized
  subst hsz
  have hD := hD0.self (sz := s.heap.size)
  generalize hAe : va_A [((t 1), .inr (4, [.ref (u 0), .int 0, .int (-1), .int 16, .ref (t 8), .int 0, .int 0, .int 0, .int 0, .int 0])), ((t 8), .inl (k 2, 900, .inl f))] s.heap.size = A at hD ⊢
  have hA : ∀ q : Nat, s.heap.size ≤ q → A q := fun q h => by rw [← hAe]; exact Or.inr h
  have hS : va_S A s.heap s.heap [] := va_S.rf
  have hP : va_P D vwCl [((t 1), .inr (4, [.ref (u 0), .int 0, .int (-1), .int 16, .ref (t 8), .int 0, .int 0, .int 0, .int 0, .int 0])), ((t 8), .inl (k 2, 900, .inl f))] s.heap := hP
  have hl := lv_entry ([.ref (t 1), .int x]) (n := 3) (Nat.le_of_ble_eq_true rfl)
  rw [lg_entry_eq]
  generalize (lg_sl ([.ref (t 1), .int x]) ++ List.replicate (3 - (lg_sl ([.ref (t 1), .int x])).length) Slot.unset).toArray = ls at hl ⊢
  have hl : lv_has ls 3 [(0, .ref (t 1)), (1, .int x)] := hl
  refine lv_bipush (v := 24) hx hb dX5_takeInt_0 (by decide) ?_
  refine lv_istore_n (lv' := [(2, .int 24), (0, .ref (t 1)), (1, .int x)]) hx hb dX5_takeInt_2 rfl hl (by decide) rfl (fun ls hl => ?_)
  refine lv_iload_n hx hb dX5_takeInt_3 rfl (lv_at hl 0 rfl) ?_
  refine lv_if_lt (tgt := 46) hx hb dX5_takeInt_4 (by decide) (fun c9 => absurd c9 (by decide)) (fun _ => ?_)
  refine lv_aload_n hx hb dX5_takeInt_7 rfl (lv_at hl 1 rfl) ?_
  refine va_get (D := D) (ci := 4) (v := .int 16) (C := RX5) (T := TX5) (N := 10) hx hb hts inlX5 hown hK hP 0 rfl rfl 3 (by decide) (hts _ mw_120) (fun _ h9 => h9) rfl dX5_takeInt_8 ?_
  refine lv_sipush (v := 900) hx hb dX5_takeInt_11 (by decide) ?_
  refine lv_icmp_ge (tgt := 46) hx hb dX5_takeInt_14 (by decide) (fun c9 => absurd c9 (by decide)) (fun _ => ?_)
  refine lv_aload_n hx hb dX5_takeInt_17 rfl (lv_at hl 1 rfl) ?_
  refine va_get (D := D) (ci := 4) (v := .ref (t 8)) (C := RX5) (T := TX5) (N := 10) hx hb hts inlX5 hown hK hP 0 rfl rfl 4 (by decide) (hts _ mw_50) (fun _ h9 => h9) rfl dX5_takeInt_18 ?_
  refine lv_aload_n hx hb dX5_takeInt_21 rfl (lv_at hl 1 rfl) ?_
  refine va_get (D := D) (ci := 4) (v := .int 16) (C := RX5) (T := TX5) (N := 10) hx hb hts inlX5 hown hK hP 0 rfl rfl 3 (by decide) (hts _ mw_120) (fun _ h9 => h9) rfl dX5_takeInt_22 ?_
  refine lv_iload_n hx hb dX5_takeInt_25 rfl (lv_at hl 2 rfl) ?_
  refine lv_iload_n hx hb dX5_takeInt_26 rfl (lv_at hl 0 rfl) ?_
  refine lv_iushr hx hb dX5_takeInt_27 rfl ?_
  refine lv_topi (fun z_1 ez_1 => ?_)
  refine lv_i2b hx hb dX5_takeInt_28 rfl ?_
  refine lv_topi (fun z_2 ez_2 => ?_)
  refine va_bast hx hb hK hP hD hS 1 2 rfl rfl (vp_in_c (by decide)) dX5_takeInt_29 (fun H locs hP hD hS => ?_)
  have hP : va_P D vwCl [((t 1), .inr (4, [.ref (u 0), .int 0, .int (-1), .int 16, .ref (t 8), .int 0, .int 0, .int 0, .int 0, .int 0])), ((t 8), .inl (k 2, 900, .inl (upd f (16 : Int32).toNatClampNeg (vp_nar .byte z_2))))] H := hP
  have hD : va_D A [((t 1), .inr (4, [.ref (u 0), .int 0, .int (-1), .int 16, .ref (t 8), .int 0, .int 0, .int 0, .int 0, .int 0])), ((t 8), .inl (k 2, 900, .inl (upd f (16 : Int32).toNatClampNeg (vp_nar .byte z_2))))] := hD
  generalize ef_3 : (upd f (16 : Int32).toNatClampNeg (vp_nar .byte z_2)) = f_3 at hP hD
  refine lv_aload_n hx hb dX5_takeInt_30 rfl (lv_at hl 1 rfl) ?_
  refine lv_dup hx hb dX5_takeInt_31 rfl ?_
  refine va_get (D := D) (ci := 4) (v := .int 16) (C := RX5) (T := TX5) (N := 10) hx hb hts inlX5 hown hK hP 0 rfl rfl 3 (by decide) (hts _ mw_120) (fun _ h9 => h9) rfl dX5_takeInt_32 ?_
  refine lv_iconst (v := 1) hx hb dX5_takeInt_35 (by decide) ?_
  refine lv_iadd hx hb dX5_takeInt_36 ?_
  refine lv_ni (v := 17) (by decide) ?_
  refine va_put (D := D) (ci := 4) (v := .int 17) (ty := .int) (C := RX5) (T := TX5) (N := 10) hx hb hts inlX5 tyX5 tyX5_ok nmX5 hown hK hP hD hS 0 rfl rfl 3 (by decide) (hts _ mw_120) (fun _ h9 => h9) rfl (by decide +kernel) rfl rfl (Nat.le_of_ble_eq_true rfl) dX5_takeInt_37 (fun H locs hP hD hS => ?_)
  have hP : va_P D vwCl [((t 1), .inr (4, [.ref (u 0), .int 0, .int (-1), .int 17, .ref (t 8), .int 0, .int 0, .int 0, .int 0, .int 0])), ((t 8), .inl (k 2, 900, .inl f_3))] H := hP
  have hD : va_D A [((t 1), .inr (4, [.ref (u 0), .int 0, .int (-1), .int 17, .ref (t 8), .int 0, .int 0, .int 0, .int 0, .int 0])), ((t 8), .inl (k 2, 900, .inl f_3))] := hD
  refine lv_iinc (v := 16) (lv' := [(2, .int 16), (0, .ref (t 1)), (1, .int x)]) hx hb dX5_takeInt_40 hl (k := 0) rfl (by decide) (by decide) rfl (fun ls hl => ?_)
  refine lv_goto (tgt := 3) hx hb dX5_takeInt_43 (by decide) ?_
  refine lv_iload_n hx hb dX5_takeInt_3 rfl (lv_at hl 0 rfl) ?_
  refine lv_if_lt (tgt := 46) hx hb dX5_takeInt_4 (by decide) (fun c9 => absurd c9 (by decide)) (fun _ => ?_)
  refine lv_aload_n hx hb dX5_takeInt_7 rfl (lv_at hl 1 rfl) ?_
  refine va_get (D := D) (ci := 4) (v := .int 17) (C := RX5) (T := TX5) (N := 10) hx hb hts inlX5 hown hK hP 0 rfl rfl 3 (by decide) (hts _ mw_120) (fun _ h9 => h9) rfl dX5_takeInt_8 ?_
  refine lv_sipush (v := 900) hx hb dX5_takeInt_11 (by decide) ?_
  refine lv_icmp_ge (tgt := 46) hx hb dX5_takeInt_14 (by decide) (fun c9 => absurd c9 (by decide)) (fun _ => ?_)
  refine lv_aload_n hx hb dX5_takeInt_17 rfl (lv_at hl 1 rfl) ?_
  refine va_get (D := D) (ci := 4) (v := .ref (t 8)) (C := RX5) (T := TX5) (N := 10) hx hb hts inlX5 hown hK hP 0 rfl rfl 4 (by decide) (hts _ mw_50) (fun _ h9 => h9) rfl dX5_takeInt_18 ?_
  refine lv_aload_n hx hb dX5_takeInt_21 rfl (lv_at hl 1 rfl) ?_
  refine va_get (D := D) (ci := 4) (v := .int 17) (C := RX5) (T := TX5) (N := 10) hx hb hts inlX5 hown hK hP 0 rfl rfl 3 (by decide) (hts _ mw_120) (fun _ h9 => h9) rfl dX5_takeInt_22 ?_
  refine lv_iload_n hx hb dX5_takeInt_25 rfl (lv_at hl 2 rfl) ?_
  refine lv_iload_n hx hb dX5_takeInt_26 rfl (lv_at hl 0 rfl) ?_
  refine lv_iushr hx hb dX5_takeInt_27 rfl ?_
  refine lv_topi (fun z_4 ez_4 => ?_)
  refine lv_i2b hx hb dX5_takeInt_28 rfl ?_
  refine lv_topi (fun z_5 ez_5 => ?_)
  refine va_bast hx hb hK hP hD hS 1 2 rfl rfl (vp_in_c (by decide)) dX5_takeInt_29 (fun H locs hP hD hS => ?_)
  have hP : va_P D vwCl [((t 1), .inr (4, [.ref (u 0), .int 0, .int (-1), .int 17, .ref (t 8), .int 0, .int 0, .int 0, .int 0, .int 0])), ((t 8), .inl (k 2, 900, .inl (upd f_3 (17 : Int32).toNatClampNeg (vp_nar .byte z_5))))] H := hP
  have hD : va_D A [((t 1), .inr (4, [.ref (u 0), .int 0, .int (-1), .int 17, .ref (t 8), .int 0, .int 0, .int 0, .int 0, .int 0])), ((t 8), .inl (k 2, 900, .inl (upd f_3 (17 : Int32).toNatClampNeg (vp_nar .byte z_5))))] := hD
  generalize ef_6 : (upd f_3 (17 : Int32).toNatClampNeg (vp_nar .byte z_5)) = f_6 at hP hD
  refine lv_aload_n hx hb dX5_takeInt_30 rfl (lv_at hl 1 rfl) ?_
  refine lv_dup hx hb dX5_takeInt_31 rfl ?_
  refine va_get (D := D) (ci := 4) (v := .int 17) (C := RX5) (T := TX5) (N := 10) hx hb hts inlX5 hown hK hP 0 rfl rfl 3 (by decide) (hts _ mw_120) (fun _ h9 => h9) rfl dX5_takeInt_32 ?_
  refine lv_iconst (v := 1) hx hb dX5_takeInt_35 (by decide) ?_
  refine lv_iadd hx hb dX5_takeInt_36 ?_
  refine lv_ni (v := 18) (by decide) ?_
  refine va_put (D := D) (ci := 4) (v := .int 18) (ty := .int) (C := RX5) (T := TX5) (N := 10) hx hb hts inlX5 tyX5 tyX5_ok nmX5 hown hK hP hD hS 0 rfl rfl 3 (by decide) (hts _ mw_120) (fun _ h9 => h9) rfl (by decide +kernel) rfl rfl (Nat.le_of_ble_eq_true rfl) dX5_takeInt_37 (fun H locs hP hD hS => ?_)
  have hP : va_P D vwCl [((t 1), .inr (4, [.ref (u 0), .int 0, .int (-1), .int 18, .ref (t 8), .int 0, .int 0, .int 0, .int 0, .int 0])), ((t 8), .inl (k 2, 900, .inl f_6))] H := hP
  have hD : va_D A [((t 1), .inr (4, [.ref (u 0), .int 0, .int (-1), .int 18, .ref (t 8), .int 0, .int 0, .int 0, .int 0, .int 0])), ((t 8), .inl (k 2, 900, .inl f_6))] := hD
  refine lv_iinc (v := 8) (lv' := [(2, .int 8), (0, .ref (t 1)), (1, .int x)]) hx hb dX5_takeInt_40 hl (k := 0) rfl (by decide) (by decide) rfl (fun ls hl => ?_)
  refine lv_goto (tgt := 3) hx hb dX5_takeInt_43 (by decide) ?_
  refine lv_iload_n hx hb dX5_takeInt_3 rfl (lv_at hl 0 rfl) ?_
  refine lv_if_lt (tgt := 46) hx hb dX5_takeInt_4 (by decide) (fun c9 => absurd c9 (by decide)) (fun _ => ?_)
  refine lv_aload_n hx hb dX5_takeInt_7 rfl (lv_at hl 1 rfl) ?_
  refine va_get (D := D) (ci := 4) (v := .int 18) (C := RX5) (T := TX5) (N := 10) hx hb hts inlX5 hown hK hP 0 rfl rfl 3 (by decide) (hts _ mw_120) (fun _ h9 => h9) rfl dX5_takeInt_8 ?_
  refine lv_sipush (v := 900) hx hb dX5_takeInt_11 (by decide) ?_
  refine lv_icmp_ge (tgt := 46) hx hb dX5_takeInt_14 (by decide) (fun c9 => absurd c9 (by decide)) (fun _ => ?_)
  refine lv_aload_n hx hb dX5_takeInt_17 rfl (lv_at hl 1 rfl) ?_
  refine va_get (D := D) (ci := 4) (v := .ref (t 8)) (C := RX5) (T := TX5) (N := 10) hx hb hts inlX5 hown hK hP 0 rfl rfl 4 (by decide) (hts _ mw_50) (fun _ h9 => h9) rfl dX5_takeInt_18 ?_
  refine lv_aload_n hx hb dX5_takeInt_21 rfl (lv_at hl 1 rfl) ?_
  refine va_get (D := D) (ci := 4) (v := .int 18) (C := RX5) (T := TX5) (N := 10) hx hb hts inlX5 hown hK hP 0 rfl rfl 3 (by decide) (hts _ mw_120) (fun _ h9 => h9) rfl dX5_takeInt_22 ?_
  refine lv_iload_n hx hb dX5_takeInt_25 rfl (lv_at hl 2 rfl) ?_
  refine lv_iload_n hx hb dX5_takeInt_26 rfl (lv_at hl 0 rfl) ?_
  refine lv_iushr hx hb dX5_takeInt_27 rfl ?_
  refine lv_topi (fun z_7 ez_7 => ?_)
  refine lv_i2b hx hb dX5_takeInt_28 rfl ?_
  refine lv_topi (fun z_8 ez_8 => ?_)
  refine va_bast hx hb hK hP hD hS 1 2 rfl rfl (vp_in_c (by decide)) dX5_takeInt_29 (fun H locs hP hD hS => ?_)
  have hP : va_P D vwCl [((t 1), .inr (4, [.ref (u 0), .int 0, .int (-1), .int 18, .ref (t 8), .int 0, .int 0, .int 0, .int 0, .int 0])), ((t 8), .inl (k 2, 900, .inl (upd f_6 (18 : Int32).toNatClampNeg (vp_nar .byte z_8))))] H := hP
  have hD : va_D A [((t 1), .inr (4, [.ref (u 0), .int 0, .int (-1), .int 18, .ref (t 8), .int 0, .int 0, .int 0, .int 0, .int 0])), ((t 8), .inl (k 2, 900, .inl (upd f_6 (18 : Int32).toNatClampNeg (vp_nar .byte z_8))))] := hD
  generalize ef_9 : (upd f_6 (18 : Int32).toNatClampNeg (vp_nar .byte z_8)) = f_9 at hP hD
  refine lv_aload_n hx hb dX5_takeInt_30 rfl (lv_at hl 1 rfl) ?_
  refine lv_dup hx hb dX5_takeInt_31 rfl ?_
  refine va_get (D := D) (ci := 4) (v := .int 18) (C := RX5) (T := TX5) (N := 10) hx hb hts inlX5 hown hK hP 0 rfl rfl 3 (by decide) (hts _ mw_120) (fun _ h9 => h9) rfl dX5_takeInt_32 ?_
  refine lv_iconst (v := 1) hx hb dX5_takeInt_35 (by decide) ?_
  refine lv_iadd hx hb dX5_takeInt_36 ?_
  refine lv_ni (v := 19) (by decide) ?_
  refine va_put (D := D) (ci := 4) (v := .int 19) (ty := .int) (C := RX5) (T := TX5) (N := 10) hx hb hts inlX5 tyX5 tyX5_ok nmX5 hown hK hP hD hS 0 rfl rfl 3 (by decide) (hts _ mw_120) (fun _ h9 => h9) rfl (by decide +kernel) rfl rfl (Nat.le_of_ble_eq_true rfl) dX5_takeInt_37 (fun H locs hP hD hS => ?_)
  have hP : va_P D vwCl [((t 1), .inr (4, [.ref (u 0), .int 0, .int (-1), .int 19, .ref (t 8), .int 0, .int 0, .int 0, .int 0, .int 0])), ((t 8), .inl (k 2, 900, .inl f_9))] H := hP
  have hD : va_D A [((t 1), .inr (4, [.ref (u 0), .int 0, .int (-1), .int 19, .ref (t 8), .int 0, .int 0, .int 0, .int 0, .int 0])), ((t 8), .inl (k 2, 900, .inl f_9))] := hD
  refine lv_iinc (v := 0) (lv' := [(2, .int 0), (0, .ref (t 1)), (1, .int x)]) hx hb dX5_takeInt_40 hl (k := 0) rfl (by decide) (by decide) rfl (fun ls hl => ?_)
  refine lv_goto (tgt := 3) hx hb dX5_takeInt_43 (by decide) ?_
  refine lv_iload_n hx hb dX5_takeInt_3 rfl (lv_at hl 0 rfl) ?_
  refine lv_if_lt (tgt := 46) hx hb dX5_takeInt_4 (by decide) (fun c9 => absurd c9 (by decide)) (fun _ => ?_)
  refine lv_aload_n hx hb dX5_takeInt_7 rfl (lv_at hl 1 rfl) ?_
  refine va_get (D := D) (ci := 4) (v := .int 19) (C := RX5) (T := TX5) (N := 10) hx hb hts inlX5 hown hK hP 0 rfl rfl 3 (by decide) (hts _ mw_120) (fun _ h9 => h9) rfl dX5_takeInt_8 ?_
  refine lv_sipush (v := 900) hx hb dX5_takeInt_11 (by decide) ?_
  refine lv_icmp_ge (tgt := 46) hx hb dX5_takeInt_14 (by decide) (fun c9 => absurd c9 (by decide)) (fun _ => ?_)
  refine lv_aload_n hx hb dX5_takeInt_17 rfl (lv_at hl 1 rfl) ?_
  refine va_get (D := D) (ci := 4) (v := .ref (t 8)) (C := RX5) (T := TX5) (N := 10) hx hb hts inlX5 hown hK hP 0 rfl rfl 4 (by decide) (hts _ mw_50) (fun _ h9 => h9) rfl dX5_takeInt_18 ?_
  refine lv_aload_n hx hb dX5_takeInt_21 rfl (lv_at hl 1 rfl) ?_
  refine va_get (D := D) (ci := 4) (v := .int 19) (C := RX5) (T := TX5) (N := 10) hx hb hts inlX5 hown hK hP 0 rfl rfl 3 (by decide) (hts _ mw_120) (fun _ h9 => h9) rfl dX5_takeInt_22 ?_
  refine lv_iload_n hx hb dX5_takeInt_25 rfl (lv_at hl 2 rfl) ?_
  refine lv_iload_n hx hb dX5_takeInt_26 rfl (lv_at hl 0 rfl) ?_
  refine lv_iushr hx hb dX5_takeInt_27 rfl ?_
  refine lv_topi (fun z_10 ez_10 => ?_)
  refine lv_i2b hx hb dX5_takeInt_28 rfl ?_
  refine lv_topi (fun z_11 ez_11 => ?_)
  refine va_bast hx hb hK hP hD hS 1 2 rfl rfl (vp_in_c (by decide)) dX5_takeInt_29 (fun H locs hP hD hS => ?_)
  have hP : va_P D vwCl [((t 1), .inr (4, [.ref (u 0), .int 0, .int (-1), .int 19, .ref (t 8), .int 0, .int 0, .int 0, .int 0, .int 0])), ((t 8), .inl (k 2, 900, .inl (upd f_9 (19 : Int32).toNatClampNeg (vp_nar .byte z_11))))] H := hP
  have hD : va_D A [((t 1), .inr (4, [.ref (u 0), .int 0, .int (-1), .int 19, .ref (t 8), .int 0, .int 0, .int 0, .int 0, .int 0])), ((t 8), .inl (k 2, 900, .inl (upd f_9 (19 : Int32).toNatClampNeg (vp_nar .byte z_11))))] := hD
  generalize ef_12 : (upd f_9 (19 : Int32).toNatClampNeg (vp_nar .byte z_11)) = f_12 at hP hD
  refine lv_aload_n hx hb dX5_takeInt_30 rfl (lv_at hl 1 rfl) ?_
  refine lv_dup hx hb dX5_takeInt_31 rfl ?_
  refine va_get (D := D) (ci := 4) (v := .int 19) (C := RX5) (T := TX5) (N := 10) hx hb hts inlX5 hown hK hP 0 rfl rfl 3 (by decide) (hts _ mw_120) (fun _ h9 => h9) rfl dX5_takeInt_32 ?_
  refine lv_iconst (v := 1) hx hb dX5_takeInt_35 (by decide) ?_
  refine lv_iadd hx hb dX5_takeInt_36 ?_
  refine lv_ni (v := 20) (by decide) ?_
  refine va_put (D := D) (ci := 4) (v := .int 20) (ty := .int) (C := RX5) (T := TX5) (N := 10) hx hb hts inlX5 tyX5 tyX5_ok nmX5 hown hK hP hD hS 0 rfl rfl 3 (by decide) (hts _ mw_120) (fun _ h9 => h9) rfl (by decide +kernel) rfl rfl (Nat.le_of_ble_eq_true rfl) dX5_takeInt_37 (fun H locs hP hD hS => ?_)
  have hP : va_P D vwCl [((t 1), .inr (4, [.ref (u 0), .int 0, .int (-1), .int 20, .ref (t 8), .int 0, .int 0, .int 0, .int 0, .int 0])), ((t 8), .inl (k 2, 900, .inl f_12))] H := hP
  have hD : va_D A [((t 1), .inr (4, [.ref (u 0), .int 0, .int (-1), .int 20, .ref (t 8), .int 0, .int 0, .int 0, .int 0, .int 0])), ((t 8), .inl (k 2, 900, .inl f_12))] := hD
  refine lv_iinc (v := (-8)) (lv' := [(2, .int (-8)), (0, .ref (t 1)), (1, .int x)]) hx hb dX5_takeInt_40 hl (k := 0) rfl (by decide) (by decide) rfl (fun ls hl => ?_)
  refine lv_goto (tgt := 3) hx hb dX5_takeInt_43 (by decide) ?_
  refine lv_iload_n hx hb dX5_takeInt_3 rfl (lv_at hl 0 rfl) ?_
  refine lv_if_lt (tgt := 46) hx hb dX5_takeInt_4 (by decide) (fun _ => ?_) (fun c9 => absurd c9 (by decide))
  have hP9 := hP.sub (ws' := [((t 1), .inr (4, [.ref (u 0), .int 0, .int (-1), .int 20, .ref (t 8), .int 0, .int 0, .int 0, .int 0, .int 0])), ((t 8), .inl (k 2, 900, .inl f_12))]) [0, 1] rfl
  have hD9 := hD.sub (ws' := [((t 1), .inr (4, [.ref (u 0), .int 0, .int (-1), .int 20, .ref (t 8), .int 0, .int 0, .int 0, .int 0, .int 0])), ((t 8), .inl (k 2, 900, .inl f_12))]) [0, 1] (by decide) rfl
  exact W.vret hx hb hr (fun t ht hW => ⟨⟨(f_12), rfl, trivial, by rw [ht]; exact hP9, hD9⟩, hS.F ht⟩) hS.2.2 dX5_takeInt_46
set_option maxHeartbeats 4000000 in
set_option maxRecDepth 100000 in
theorem c_R_advance0 (l : Launch) (D : va_G) (k : Nat → ClassId) (t : Nat → Nat) (u : Nat → Nat) (sz : Nat) : Met l yX5_advance (Cond.code yX5_advance cX5_advance 1 none :: wsL_law) ({ frames := 0, cells := 0, slots := 0, locals := 0 } : Room) (va_Pc [.ref (t 1)] (pu D k sz [((t 1), .inr (4, [.ref (u 0), .int 0, .int (-1), .int 0, .ref (t 8), .int 0, .int 0, .int 0, .int 0, .int 0]))])) (va_Qv (fun uu : Unit => True) (qu D (va_A [((t 1), .inr (4, [.ref (u 0), .int 0, .int (-1), .int 0, .ref (t 8), .int 0, .int 0, .int 0, .int 0, .int 0]))] sz) (fun uu : Unit => [((t 1), .inr (4, [.ref (u 0), .int 0, .int (-1), .int 0, .ref (t 8), .int 0, .int 0, .int 0, .int 1, .int 0]))])) (va_A [((t 1), .inr (4, [.ref (u 0), .int 0, .int (-1), .int 0, .ref (t 8), .int 0, .int 0, .int 0, .int 0, .int 0]))] sz)) 0 0 (va_A [((t 1), .inr (4, [.ref (u 0), .int 0, .int (-1), .int 0, .ref (t 8), .int 0, .int 0, .int 0, .int 0, .int 0]))] sz) := by
  refine Met.ofW (cc := cX5_advance) (maxL := 1) (ret := none) (by decide) rfl ?_
  intro p e s m args below meth c s₁ B hml hv
  obtain ⟨rfl, hsz, hP, hK, hD0⟩ := hv
  have hx := B.exec
  have hb := B.bytes
  have hr := B.returns
  have hts : ∀ w ∈ wsL_law, w.before _ s = true := fun w h => atoms_spec (ws := Cond.code yX5_advance cX5_advance 1 none :: wsL_law) B.pre w (List.mem_cons_of_mem _ h)
  have hown : s.vm.findClass RX5 = some m.cls := findClass_of_methodNamed B.named
  have hlocks := B.notSynchronized
  subst hsz
  have hD := hD0.self (sz := s.heap.size)
  generalize hAe : va_A [((t 1), .inr (4, [.ref (u 0), .int 0, .int (-1), .int 0, .ref (t 8), .int 0, .int 0, .int 0, .int 0, .int 0]))] s.heap.size = A at hD ⊢
  have hA : ∀ q : Nat, s.heap.size ≤ q → A q := fun q h => by rw [← hAe]; exact Or.inr h
  have hS : va_S A s.heap s.heap [] := va_S.rf
  have hP : va_P D vwCl [((t 1), .inr (4, [.ref (u 0), .int 0, .int (-1), .int 0, .ref (t 8), .int 0, .int 0, .int 0, .int 0, .int 0]))] s.heap := hP
  have hl := lv_entry ([.ref (t 1)]) (n := 1) (Nat.le_of_ble_eq_true rfl)
  rw [lg_entry_eq]
  generalize (lg_sl ([.ref (t 1)]) ++ List.replicate (1 - (lg_sl ([.ref (t 1)])).length) Slot.unset).toArray = ls at hl ⊢
  have hl : lv_has ls 1 [(0, .ref (t 1))] := hl
  refine lv_aload_n hx hb dX5_advance_0 rfl (lv_at hl 0 rfl) ?_
  refine va_get (D := D) (ci := 4) (v := .int 0) (C := RX5) (T := TX5) (N := 10) hx hb hts inlX5 hown hK hP 0 rfl rfl 7 (by decide) (hts _ mw_146) (fun _ h9 => h9) rfl dX5_advance_1 ?_
  refine lv_aload_n hx hb dX5_advance_4 rfl (lv_at hl 0 rfl) ?_
  refine va_get (D := D) (ci := 4) (v := .int 0) (C := RX5) (T := TX5) (N := 10) hx hb hts inlX5 hown hK hP 0 rfl rfl 5 (by decide) (hts _ mw_144) (fun _ h9 => h9) rfl dX5_advance_5 ?_
  refine lv_icmp_ge (tgt := 52) hx hb dX5_advance_8 (by decide) (fun _ => ?_) (fun c9 => absurd c9 (by decide))
  refine lv_aload_n hx hb dX5_advance_52 rfl (lv_at hl 0 rfl) ?_
  refine lv_aload_n hx hb dX5_advance_53 rfl (lv_at hl 0 rfl) ?_
  refine va_get (D := D) (ci := 4) (v := .int 0) (C := RX5) (T := TX5) (N := 10) hx hb hts inlX5 hown hK hP 0 rfl rfl 7 (by decide) (hts _ mw_146) (fun _ h9 => h9) rfl dX5_advance_54 ?_
  refine va_put (D := D) (ci := 4) (v := .int 0) (ty := .int) (C := RX5) (T := TX5) (N := 10) hx hb hts inlX5 tyX5 tyX5_ok nmX5 hown hK hP hD hS 0 rfl rfl 6 (by decide) (hts _ mw_163) (fun _ h9 => h9) rfl (by decide +kernel) rfl rfl (Nat.le_of_ble_eq_true rfl) dX5_advance_57 (fun H locs hP hD hS => ?_)
  have hP : va_P D vwCl [((t 1), .inr (4, [.ref (u 0), .int 0, .int (-1), .int 0, .ref (t 8), .int 0, .int 0, .int 0, .int 0, .int 0]))] H := hP
  have hD : va_D A [((t 1), .inr (4, [.ref (u 0), .int 0, .int (-1), .int 0, .ref (t 8), .int 0, .int 0, .int 0, .int 0, .int 0]))] := hD
  refine lv_aload_n hx hb dX5_advance_60 rfl (lv_at hl 0 rfl) ?_
  refine va_get (D := D) (ci := 4) (v := .int 0) (C := RX5) (T := TX5) (N := 10) hx hb hts inlX5 hown hK hP 0 rfl rfl 7 (by decide) (hts _ mw_146) (fun _ h9 => h9) rfl dX5_advance_61 ?_
  refine lv_aload_n hx hb dX5_advance_64 rfl (lv_at hl 0 rfl) ?_
  refine va_get (D := D) (ci := 4) (v := .int 0) (C := RX5) (T := TX5) (N := 10) hx hb hts inlX5 hown hK hP 0 rfl rfl 5 (by decide) (hts _ mw_144) (fun _ h9 => h9) rfl dX5_advance_65 ?_
  refine lv_icmp_lt (tgt := 79) hx hb dX5_advance_68 (by decide) (fun c9 => absurd c9 (by decide)) (fun _ => ?_)
  refine lv_aload_n hx hb dX5_advance_71 rfl (lv_at hl 0 rfl) ?_
  refine lv_iconst (v := 1) hx hb dX5_advance_72 (by decide) ?_
  refine va_put (D := D) (ci := 4) (v := .int 1) (ty := .int) (C := RX5) (T := TX5) (N := 10) hx hb hts inlX5 tyX5 tyX5_ok nmX5 hown hK hP hD hS 0 rfl rfl 8 (by decide) (hts _ mw_147) (fun _ h9 => h9) rfl (by decide +kernel) rfl rfl (Nat.le_of_ble_eq_true rfl) dX5_advance_73 (fun H locs hP hD hS => ?_)
  have hP : va_P D vwCl [((t 1), .inr (4, [.ref (u 0), .int 0, .int (-1), .int 0, .ref (t 8), .int 0, .int 0, .int 0, .int 1, .int 0]))] H := hP
  have hD : va_D A [((t 1), .inr (4, [.ref (u 0), .int 0, .int (-1), .int 0, .ref (t 8), .int 0, .int 0, .int 0, .int 1, .int 0]))] := hD
  refine lv_goto (tgt := 263) hx hb dX5_advance_76 (by decide) ?_
  refine lv_aload_n hx hb dX5_advance_263 rfl (lv_at hl 0 rfl) ?_
  refine va_get (D := D) (ci := 4) (v := .int 1) (C := RX5) (T := TX5) (N := 10) hx hb hts inlX5 hown hK hP 0 rfl rfl 8 (by decide) (hts _ mw_147) (fun _ h9 => h9) rfl dX5_advance_264 ?_
  refine lv_iconst (v := 3) hx hb dX5_advance_267 (by decide) ?_
  refine lv_icmp_ne (tgt := 289) hx hb dX5_advance_268 (by decide) (fun _ => ?_) (fun c9 => absurd c9 (by decide))
  have hP9 := hP.sub (ws' := [((t 1), .inr (4, [.ref (u 0), .int 0, .int (-1), .int 0, .ref (t 8), .int 0, .int 0, .int 0, .int 1, .int 0]))]) [0] rfl
  have hD9 := hD.sub (ws' := [((t 1), .inr (4, [.ref (u 0), .int 0, .int (-1), .int 0, .ref (t 8), .int 0, .int 0, .int 0, .int 1, .int 0]))]) [0] (by decide) rfl
  exact W.vret hx hb hr (fun t ht hW => ⟨⟨(), rfl, trivial, by rw [ht]; exact hP9, hD9⟩, hS.F ht⟩) hS.2.2 dX5_advance_289
set_option maxHeartbeats 4000000 in
set_option maxRecDepth 100000 in
theorem c_R_read0 (l : Launch) (D : va_G) (k : Nat → ClassId) (t : Nat → Nat) (u : Nat → Nat) (sz : Nat) : Met l yX5_read (Cond.code yX5_read cX5_read 3 none :: wsL_law) ({ frames := 1, cells := 0, slots := 0, locals := 60 } : Room) (va_Pc [.ref (t 1), .int 0] (pu D k sz [((t 1), .inr (4, [.ref (u 0), .int 0, .int (-1), .int 0, .ref (t 8), .int 0, .int 0, .int 0, .int 0, .int 0])), ((u 0), .inr (5, [.int 0, .int 0, .int 3, .int 8, .int 4, .int 4, .int 0, .int 0, .int 0, .int 0, .int 0, .ref (u 1), .ref (u 2), .ref (u 3), .ref (u 4), .ref (u 5)])), ((u 1), .inl (k 0, 10, .inl (fun _ => 0))), ((u 2), .inl (k 0, 10, .inl (fun _ => 0)))])) (va_Qv (fun uu : Unit => True) (qu D (va_A [((t 1), .inr (4, [.ref (u 0), .int 0, .int (-1), .int 0, .ref (t 8), .int 0, .int 0, .int 0, .int 0, .int 0])), ((u 0), .inr (5, [.int 0, .int 0, .int 3, .int 8, .int 4, .int 4, .int 0, .int 0, .int 0, .int 0, .int 0, .ref (u 1), .ref (u 2), .ref (u 3), .ref (u 4), .ref (u 5)])), ((u 1), .inl (k 0, 10, .inl (fun _ => 0))), ((u 2), .inl (k 0, 10, .inl (fun _ => 0)))] sz) (fun uu : Unit => [((t 1), .inr (4, [.ref (u 0), .int 0, .int (-1), .int 0, .ref (t 8), .int 0, .int 0, .int 0, .int 1, .int 0])), ((u 0), .inr (5, [.int 0, .int 0, .int 3, .int 8, .int 4, .int 4, .int 0, .int 0, .int 0, .int 0, .int 0, .ref (u 1), .ref (u 2), .ref (u 3), .ref (u 4), .ref (u 5)])), ((u 1), .inl (k 0, 10, .inl (fun _ => 0))), ((u 2), .inl (k 0, 10, .inl (fun _ => 0)))])) (va_A [((t 1), .inr (4, [.ref (u 0), .int 0, .int (-1), .int 0, .ref (t 8), .int 0, .int 0, .int 0, .int 0, .int 0])), ((u 0), .inr (5, [.int 0, .int 0, .int 3, .int 8, .int 4, .int 4, .int 0, .int 0, .int 0, .int 0, .int 0, .ref (u 1), .ref (u 2), .ref (u 3), .ref (u 4), .ref (u 5)])), ((u 1), .inl (k 0, 10, .inl (fun _ => 0))), ((u 2), .inl (k 0, 10, .inl (fun _ => 0)))] sz)) 0 0 (va_A [((t 1), .inr (4, [.ref (u 0), .int 0, .int (-1), .int 0, .ref (t 8), .int 0, .int 0, .int 0, .int 0, .int 0])), ((u 0), .inr (5, [.int 0, .int 0, .int 3, .int 8, .int 4, .int 4, .int 0, .int 0, .int 0, .int 0, .int 0, .ref (u 1), .ref (u 2), .ref (u 3), .ref (u 4), .ref (u 5)])), ((u 1), .inl (k 0, 10, .inl (fun _ => 0))), ((u 2), .inl (k 0, 10, .inl (fun _ => 0)))] sz) := by
  refine Met.ofW (cc := cX5_read) (maxL := 3) (ret := none) (by decide) rfl ?_
  intro p e s m args below meth c s₁ B hml hv
  obtain ⟨rfl, hsz, hP, hK, hD0⟩ := hv
  have hx := B.exec
  have hb := B.bytes
  have hr := B.returns
  have hts : ∀ w ∈ wsL_law, w.before _ s = true := fun w h => atoms_spec (ws := Cond.code yX5_read cX5_read 3 none :: wsL_law) B.pre w (List.mem_cons_of_mem _ h)
  have hown : s.vm.findClass RX5 = some m.cls := findClass_of_methodNamed B.named
  have hlocks := B.notSynchronized
  subst hsz
  have hD := hD0.self (sz := s.heap.size)
  generalize hAe : va_A [((t 1), .inr (4, [.ref (u 0), .int 0, .int (-1), .int 0, .ref (t 8), .int 0, .int 0, .int 0, .int 0, .int 0])), ((u 0), .inr (5, [.int 0, .int 0, .int 3, .int 8, .int 4, .int 4, .int 0, .int 0, .int 0, .int 0, .int 0, .ref (u 1), .ref (u 2), .ref (u 3), .ref (u 4), .ref (u 5)])), ((u 1), .inl (k 0, 10, .inl (fun _ => 0))), ((u 2), .inl (k 0, 10, .inl (fun _ => 0)))] s.heap.size = A at hD ⊢
  have hA : ∀ q : Nat, s.heap.size ≤ q → A q := fun q h => by rw [← hAe]; exact Or.inr h
  have hS : va_S A s.heap s.heap [] := va_S.rf
  have hP : va_P D vwCl [((t 1), .inr (4, [.ref (u 0), .int 0, .int (-1), .int 0, .ref (t 8), .int 0, .int 0, .int 0, .int 0, .int 0])), ((u 0), .inr (5, [.int 0, .int 0, .int 3, .int 8, .int 4, .int 4, .int 0, .int 0, .int 0, .int 0, .int 0, .ref (u 1), .ref (u 2), .ref (u 3), .ref (u 4), .ref (u 5)])), ((u 1), .inl (k 0, 10, .inl (fun _ => 0))), ((u 2), .inl (k 0, 10, .inl (fun _ => 0)))] s.heap := hP
  have hl := lv_entry ([.ref (t 1), .int 0]) (n := 3) (Nat.le_of_ble_eq_true rfl)
  rw [lg_entry_eq]
  generalize (lg_sl ([.ref (t 1), .int 0]) ++ List.replicate (3 - (lg_sl ([.ref (t 1), .int 0])).length) Slot.unset).toArray = ls at hl ⊢
  have hl : lv_has ls 3 [(0, .ref (t 1)), (1, .int 0)] := hl
  refine lv_aload_n hx hb dX5_read_0 rfl (lv_at hl 0 rfl) ?_
  refine lv_iload_n hx hb dX5_read_1 rfl (lv_at hl 1 rfl) ?_
  refine lv_sipush (v := 900) hx hb dX5_read_2 (by decide) ?_
  refine va_mmin hx hb (by rw [hml, hl.1]) hown (hts _ mw_140) (hts _ mw_141) (hts _ mw_142) (hts _ mw_143) (Nat.le_of_ble_eq_true rfl) (Nat.le_of_ble_eq_true rfl) (Nat.zero_le _) (Nat.zero_le _) dX5_read_5 ?_
  refine lv_ni (v := 0) (by decide) ?_
  refine va_put (D := D) (ci := 4) (v := .int 0) (ty := .int) (C := RX5) (T := TX5) (N := 10) hx hb hts inlX5 tyX5 tyX5_ok nmX5 hown hK hP hD hS 0 rfl rfl 5 (by decide) (hts _ mw_144) (fun _ h9 => h9) rfl (by decide +kernel) rfl rfl (Nat.le_of_ble_eq_true rfl) dX5_read_8 (fun H locs hP hD hS => ?_)
  have hP : va_P D vwCl [((t 1), .inr (4, [.ref (u 0), .int 0, .int (-1), .int 0, .ref (t 8), .int 0, .int 0, .int 0, .int 0, .int 0])), ((u 0), .inr (5, [.int 0, .int 0, .int 3, .int 8, .int 4, .int 4, .int 0, .int 0, .int 0, .int 0, .int 0, .ref (u 1), .ref (u 2), .ref (u 3), .ref (u 4), .ref (u 5)])), ((u 1), .inl (k 0, 10, .inl (fun _ => 0))), ((u 2), .inl (k 0, 10, .inl (fun _ => 0)))] H := hP
  have hD : va_D A [((t 1), .inr (4, [.ref (u 0), .int 0, .int (-1), .int 0, .ref (t 8), .int 0, .int 0, .int 0, .int 0, .int 0])), ((u 0), .inr (5, [.int 0, .int 0, .int 3, .int 8, .int 4, .int 4, .int 0, .int 0, .int 0, .int 0, .int 0, .ref (u 1), .ref (u 2), .ref (u 3), .ref (u 4), .ref (u 5)])), ((u 1), .inl (k 0, 10, .inl (fun _ => 0))), ((u 2), .inl (k 0, 10, .inl (fun _ => 0)))] := hD
  refine lv_aload_n hx hb dX5_read_11 rfl (lv_at hl 0 rfl) ?_
  refine lv_iconst (v := 0) hx hb dX5_read_12 (by decide) ?_
  refine va_put (D := D) (ci := 4) (v := .int 0) (ty := .int) (C := RX5) (T := TX5) (N := 10) hx hb hts inlX5 tyX5 tyX5_ok nmX5 hown hK hP hD hS 0 rfl rfl 3 (by decide) (hts _ mw_120) (fun _ h9 => h9) rfl (by decide +kernel) rfl rfl (Nat.le_of_ble_eq_true rfl) dX5_read_13 (fun H locs hP hD hS => ?_)
  have hP : va_P D vwCl [((t 1), .inr (4, [.ref (u 0), .int 0, .int (-1), .int 0, .ref (t 8), .int 0, .int 0, .int 0, .int 0, .int 0])), ((u 0), .inr (5, [.int 0, .int 0, .int 3, .int 8, .int 4, .int 4, .int 0, .int 0, .int 0, .int 0, .int 0, .ref (u 1), .ref (u 2), .ref (u 3), .ref (u 4), .ref (u 5)])), ((u 1), .inl (k 0, 10, .inl (fun _ => 0))), ((u 2), .inl (k 0, 10, .inl (fun _ => 0)))] H := hP
  have hD : va_D A [((t 1), .inr (4, [.ref (u 0), .int 0, .int (-1), .int 0, .ref (t 8), .int 0, .int 0, .int 0, .int 0, .int 0])), ((u 0), .inr (5, [.int 0, .int 0, .int 3, .int 8, .int 4, .int 4, .int 0, .int 0, .int 0, .int 0, .int 0, .ref (u 1), .ref (u 2), .ref (u 3), .ref (u 4), .ref (u 5)])), ((u 1), .inl (k 0, 10, .inl (fun _ => 0))), ((u 2), .inl (k 0, 10, .inl (fun _ => 0)))] := hD
  refine lv_aload_n hx hb dX5_read_16 rfl (lv_at hl 0 rfl) ?_
  refine va_get (D := D) (ci := 4) (v := .ref (u 0)) (C := RX5) (T := TX5) (N := 10) hx hb hts inlX5 hown hK hP 0 rfl rfl 0 (by decide) (hts _ mw_47) (fun _ h9 => h9) rfl dX5_read_17 ?_
  refine kV_uv (q0 := 0) (As := []) (rest := []) (wc := [((u 0), .inr (5, [.int 0, .int 0, .int 3, .int 8, .int 4, .int 4, .int 0, .int 0, .int 0, .int 0, .int 0, .ref (u 1), .ref (u 2), .ref (u 3), .ref (u 4), .ref (u 5)])), ((u 1), .inl (k 0, 10, .inl (fun _ => 0))), ((u 2), .inl (k 0, 10, .inl (fun _ => 0)))]) (wr := [((t 1), .inr (4, [.ref (u 0), .int 0, .int (-1), .int 0, .ref (t 8), .int 0, .int 0, .int 0, .int 0, .int 0]))]) ⟨hx, hb, hml, hown, hts⟩ (c_W_clear l D k u 0 _) (gV mw_148 mw_149 mw_150 mw_19 mw_151) hd_yX6_clear rfl rfl ⟨Nat.le_of_ble_eq_true rfl, Nat.le_of_ble_eq_true rfl⟩ hK hP hD hS hA [1, 2, 3] [0] rfl rfl (by decide) (by decide) (by decide) rfl rfl rfl rfl hl.1 rfl (Nat.le_of_ble_eq_true rfl) dX5_read_20 ⟨Nat.le_of_ble_eq_true rfl, Nat.le_of_ble_eq_true rfl⟩ (fun u_2 H locs hw hP hD hS => ?_)
  have hP : va_P D vwCl [((t 1), .inr (4, [.ref (u 0), .int 0, .int (-1), .int 0, .ref (t 8), .int 0, .int 0, .int 0, .int 0, .int 0])), ((u 0), .inr (5, [.int 0, .int 0, .int 3, .int 8, .int 4, .int 4, .int 0, .int 0, .int 0, .int 0, .int 0, .ref (u 1), .ref (u 2), .ref (u 3), .ref (u 4), .ref (u 5)])), ((u 1), .inl (k 0, 10, .inl (fun _ => 0))), ((u 2), .inl (k 0, 10, .inl (fun _ => 0)))] H := hP
  have hD : va_D A [((t 1), .inr (4, [.ref (u 0), .int 0, .int (-1), .int 0, .ref (t 8), .int 0, .int 0, .int 0, .int 0, .int 0])), ((u 0), .inr (5, [.int 0, .int 0, .int 3, .int 8, .int 4, .int 4, .int 0, .int 0, .int 0, .int 0, .int 0, .ref (u 1), .ref (u 2), .ref (u 3), .ref (u 4), .ref (u 5)])), ((u 1), .inl (k 0, 10, .inl (fun _ => 0))), ((u 2), .inl (k 0, 10, .inl (fun _ => 0)))] := hD
  refine lv_aload_n hx hb dX5_read_23 rfl (lv_at hl 0 rfl) ?_
  refine lv_iconst (v := 0) hx hb dX5_read_24 (by decide) ?_
  refine va_put (D := D) (ci := 4) (v := .int 0) (ty := .int) (C := RX5) (T := TX5) (N := 10) hx hb hts inlX5 tyX5 tyX5_ok nmX5 hown hK hP hD hS 0 rfl rfl 1 (by decide) (hts _ mw_145) (fun _ h9 => h9) rfl (by decide +kernel) rfl rfl (Nat.le_of_ble_eq_true rfl) dX5_read_25 (fun H locs hP hD hS => ?_)
  have hP : va_P D vwCl [((t 1), .inr (4, [.ref (u 0), .int 0, .int (-1), .int 0, .ref (t 8), .int 0, .int 0, .int 0, .int 0, .int 0])), ((u 0), .inr (5, [.int 0, .int 0, .int 3, .int 8, .int 4, .int 4, .int 0, .int 0, .int 0, .int 0, .int 0, .ref (u 1), .ref (u 2), .ref (u 3), .ref (u 4), .ref (u 5)])), ((u 1), .inl (k 0, 10, .inl (fun _ => 0))), ((u 2), .inl (k 0, 10, .inl (fun _ => 0)))] H := hP
  have hD : va_D A [((t 1), .inr (4, [.ref (u 0), .int 0, .int (-1), .int 0, .ref (t 8), .int 0, .int 0, .int 0, .int 0, .int 0])), ((u 0), .inr (5, [.int 0, .int 0, .int 3, .int 8, .int 4, .int 4, .int 0, .int 0, .int 0, .int 0, .int 0, .ref (u 1), .ref (u 2), .ref (u 3), .ref (u 4), .ref (u 5)])), ((u 1), .inl (k 0, 10, .inl (fun _ => 0))), ((u 2), .inl (k 0, 10, .inl (fun _ => 0)))] := hD
  refine lv_aload_n hx hb dX5_read_28 rfl (lv_at hl 0 rfl) ?_
  refine lv_iconst (v := (-1)) hx hb dX5_read_29 (by decide) ?_
  refine va_put (D := D) (ci := 4) (v := .int (-1)) (ty := .int) (C := RX5) (T := TX5) (N := 10) hx hb hts inlX5 tyX5 tyX5_ok nmX5 hown hK hP hD hS 0 rfl rfl 2 (by decide) (hts _ mw_48) (fun _ h9 => h9) rfl (by decide +kernel) rfl rfl (Nat.le_of_ble_eq_true rfl) dX5_read_30 (fun H locs hP hD hS => ?_)
  have hP : va_P D vwCl [((t 1), .inr (4, [.ref (u 0), .int 0, .int (-1), .int 0, .ref (t 8), .int 0, .int 0, .int 0, .int 0, .int 0])), ((u 0), .inr (5, [.int 0, .int 0, .int 3, .int 8, .int 4, .int 4, .int 0, .int 0, .int 0, .int 0, .int 0, .ref (u 1), .ref (u 2), .ref (u 3), .ref (u 4), .ref (u 5)])), ((u 1), .inl (k 0, 10, .inl (fun _ => 0))), ((u 2), .inl (k 0, 10, .inl (fun _ => 0)))] H := hP
  have hD : va_D A [((t 1), .inr (4, [.ref (u 0), .int 0, .int (-1), .int 0, .ref (t 8), .int 0, .int 0, .int 0, .int 0, .int 0])), ((u 0), .inr (5, [.int 0, .int 0, .int 3, .int 8, .int 4, .int 4, .int 0, .int 0, .int 0, .int 0, .int 0, .ref (u 1), .ref (u 2), .ref (u 3), .ref (u 4), .ref (u 5)])), ((u 1), .inl (k 0, 10, .inl (fun _ => 0))), ((u 2), .inl (k 0, 10, .inl (fun _ => 0)))] := hD
  refine lv_aload_n hx hb dX5_read_33 rfl (lv_at hl 0 rfl) ?_
  refine lv_iconst (v := 0) hx hb dX5_read_34 (by decide) ?_
  refine va_put (D := D) (ci := 4) (v := .int 0) (ty := .int) (C := RX5) (T := TX5) (N := 10) hx hb hts inlX5 tyX5 tyX5_ok nmX5 hown hK hP hD hS 0 rfl rfl 7 (by decide) (hts _ mw_146) (fun _ h9 => h9) rfl (by decide +kernel) rfl rfl (Nat.le_of_ble_eq_true rfl) dX5_read_35 (fun H locs hP hD hS => ?_)
  have hP : va_P D vwCl [((t 1), .inr (4, [.ref (u 0), .int 0, .int (-1), .int 0, .ref (t 8), .int 0, .int 0, .int 0, .int 0, .int 0])), ((u 0), .inr (5, [.int 0, .int 0, .int 3, .int 8, .int 4, .int 4, .int 0, .int 0, .int 0, .int 0, .int 0, .ref (u 1), .ref (u 2), .ref (u 3), .ref (u 4), .ref (u 5)])), ((u 1), .inl (k 0, 10, .inl (fun _ => 0))), ((u 2), .inl (k 0, 10, .inl (fun _ => 0)))] H := hP
  have hD : va_D A [((t 1), .inr (4, [.ref (u 0), .int 0, .int (-1), .int 0, .ref (t 8), .int 0, .int 0, .int 0, .int 0, .int 0])), ((u 0), .inr (5, [.int 0, .int 0, .int 3, .int 8, .int 4, .int 4, .int 0, .int 0, .int 0, .int 0, .int 0, .ref (u 1), .ref (u 2), .ref (u 3), .ref (u 4), .ref (u 5)])), ((u 1), .inl (k 0, 10, .inl (fun _ => 0))), ((u 2), .inl (k 0, 10, .inl (fun _ => 0)))] := hD
  refine lv_aload_n hx hb dX5_read_38 rfl (lv_at hl 0 rfl) ?_
  refine kV_uv (q0 := 0) (As := []) (rest := []) (wc := [((t 1), .inr (4, [.ref (u 0), .int 0, .int (-1), .int 0, .ref (t 8), .int 0, .int 0, .int 0, .int 0, .int 0]))]) (wr := [((u 0), .inr (5, [.int 0, .int 0, .int 3, .int 8, .int 4, .int 4, .int 0, .int 0, .int 0, .int 0, .int 0, .ref (u 1), .ref (u 2), .ref (u 3), .ref (u 4), .ref (u 5)])), ((u 1), .inl (k 0, 10, .inl (fun _ => 0))), ((u 2), .inl (k 0, 10, .inl (fun _ => 0)))]) ⟨hx, hb, hml, hown, hts⟩ (c_R_advance0 l D k _ _ _) (gV mw_159 mw_160 mw_161 mw_15 mw_162) hd_yX5_advance rfl rfl ⟨Nat.le_of_ble_eq_true rfl, Nat.le_of_ble_eq_true rfl⟩ hK hP hD hS hA [0] [1, 2, 3] rfl rfl (by decide) (by decide) (by decide) rfl rfl rfl rfl hl.1 rfl (Nat.le_of_ble_eq_true rfl) dX5_read_39 ⟨Nat.le_of_ble_eq_true rfl, Nat.le_of_ble_eq_true rfl⟩ (fun u_4 H locs hw hP hD hS => ?_)
  have hP : va_P D vwCl [((u 0), .inr (5, [.int 0, .int 0, .int 3, .int 8, .int 4, .int 4, .int 0, .int 0, .int 0, .int 0, .int 0, .ref (u 1), .ref (u 2), .ref (u 3), .ref (u 4), .ref (u 5)])), ((u 1), .inl (k 0, 10, .inl (fun _ => 0))), ((u 2), .inl (k 0, 10, .inl (fun _ => 0))), ((t 1), .inr (4, [.ref (u 0), .int 0, .int (-1), .int 0, .ref (t 8), .int 0, .int 0, .int 0, .int 1, .int 0]))] H := hP
  have hD : va_D A [((u 0), .inr (5, [.int 0, .int 0, .int 3, .int 8, .int 4, .int 4, .int 0, .int 0, .int 0, .int 0, .int 0, .ref (u 1), .ref (u 2), .ref (u 3), .ref (u 4), .ref (u 5)])), ((u 1), .inl (k 0, 10, .inl (fun _ => 0))), ((u 2), .inl (k 0, 10, .inl (fun _ => 0))), ((t 1), .inr (4, [.ref (u 0), .int 0, .int (-1), .int 0, .ref (t 8), .int 0, .int 0, .int 0, .int 1, .int 0]))] := hD
  refine lv_iconst (v := 0) hx hb dX5_read_42 (by decide) ?_
  refine lv_istore_n (lv' := [(2, .int 0), (0, .ref (t 1)), (1, .int 0)]) hx hb dX5_read_43 rfl hl (by decide) rfl (fun ls hl => ?_)
  refine lv_iload_n hx hb dX5_read_44 rfl (lv_at hl 0 rfl) ?_
  refine lv_aload_n hx hb dX5_read_45 rfl (lv_at hl 1 rfl) ?_
  refine va_get (D := D) (ci := 4) (v := .int 0) (C := RX5) (T := TX5) (N := 10) hx hb hts inlX5 hown hK hP 3 rfl rfl 5 (by decide) (hts _ mw_144) (fun _ h9 => h9) rfl dX5_read_46 ?_
  refine lv_icmp_gt (tgt := 77) hx hb dX5_read_49 (by decide) (fun c9 => absurd c9 (by decide)) (fun _ => ?_)
  refine lv_aload_n hx hb dX5_read_52 rfl (lv_at hl 1 rfl) ?_
  refine va_get (D := D) (ci := 4) (v := .int 0) (C := RX5) (T := TX5) (N := 10) hx hb hts inlX5 hown hK hP 3 rfl rfl 1 (by decide) (hts _ mw_145) (fun _ h9 => h9) rfl dX5_read_53 ?_
  refine lv_if_ne (tgt := 77) hx hb dX5_read_56 (by decide) (fun c9 => absurd c9 (by decide)) (fun _ => ?_)
  refine lv_aload_n hx hb dX5_read_59 rfl (lv_at hl 1 rfl) ?_
  refine va_get (D := D) (ci := 4) (v := .int 1) (C := RX5) (T := TX5) (N := 10) hx hb hts inlX5 hown hK hP 3 rfl rfl 8 (by decide) (hts _ mw_147) (fun _ h9 => h9) rfl dX5_read_60 ?_
  refine lv_iconst (v := 1) hx hb dX5_read_63 (by decide) ?_
  refine lv_icmp_eq (tgt := 77) hx hb dX5_read_64 (by decide) (fun _ => ?_) (fun c9 => absurd c9 (by decide))
  have hP9 := hP.sub (ws' := [((t 1), .inr (4, [.ref (u 0), .int 0, .int (-1), .int 0, .ref (t 8), .int 0, .int 0, .int 0, .int 1, .int 0])), ((u 0), .inr (5, [.int 0, .int 0, .int 3, .int 8, .int 4, .int 4, .int 0, .int 0, .int 0, .int 0, .int 0, .ref (u 1), .ref (u 2), .ref (u 3), .ref (u 4), .ref (u 5)])), ((u 1), .inl (k 0, 10, .inl (fun _ => 0))), ((u 2), .inl (k 0, 10, .inl (fun _ => 0)))]) [3, 0, 1, 2] rfl
  have hD9 := hD.sub (ws' := [((t 1), .inr (4, [.ref (u 0), .int 0, .int (-1), .int 0, .ref (t 8), .int 0, .int 0, .int 0, .int 1, .int 0])), ((u 0), .inr (5, [.int 0, .int 0, .int 3, .int 8, .int 4, .int 4, .int 0, .int 0, .int 0, .int 0, .int 0, .ref (u 1), .ref (u 2), .ref (u 3), .ref (u 4), .ref (u 5)])), ((u 1), .inl (k 0, 10, .inl (fun _ => 0))), ((u 2), .inl (k 0, 10, .inl (fun _ => 0)))]) [3, 0, 1, 2] (by decide) rfl
  exact W.vret hx hb hr (fun t ht hW => ⟨⟨(), rfl, trivial, by rw [ht]; exact hP9, hD9⟩, hS.F ht⟩) hS.2.2 dX5_read_77
set_option maxHeartbeats 4000000 in
set_option maxRecDepth 100000 in
theorem c_N_begin (l : Launch) (D : va_G) (k : Nat → ClassId) (o : Nat) (q : Nat) (x : Int32) (z : Int32) (sz : Nat) : Met l yX3_begin (Cond.code yX3_begin cX3_begin 4 none :: wsL_law) ({ frames := 0, cells := 0, slots := 0, locals := 0 } : Room) (va_Pc [.ref o, .int x, .int z] (pu D k sz [(o, .inr (2, [.int 0, .int 0, .ref q, .int 0])), (q, .inl (k 1, 40, .inr (.inl (fun _ => 0))))])) (va_Qv (fun uu : Unit => True) (qu D (va_A [(o, .inr (2, [.int 0, .int 0, .ref q, .int 0])), (q, .inl (k 1, 40, .inr (.inl (fun _ => 0))))] sz) (fun uu : Unit => [(o, .inr (2, [.int 1, .int z, .ref q, .int x])), (q, .inl (k 1, 40, .inr (.inl (fun _ => 0))))])) (va_A [(o, .inr (2, [.int 0, .int 0, .ref q, .int 0])), (q, .inl (k 1, 40, .inr (.inl (fun _ => 0))))] sz)) 0 0 (va_A [(o, .inr (2, [.int 0, .int 0, .ref q, .int 0])), (q, .inl (k 1, 40, .inr (.inl (fun _ => 0))))] sz) := by
  refine Met.ofW (cc := cX3_begin) (maxL := 4) (ret := none) (by decide) rfl ?_
  intro p e s m args below meth c s₁ B hml hv
  obtain ⟨rfl, hsz, hP, hK, hD0⟩ := hv
  have hx := B.exec
  have hb := B.bytes
  have hr := B.returns
  have hts : ∀ w ∈ wsL_law, w.before _ s = true := fun w h => atoms_spec (ws := Cond.code yX3_begin cX3_begin 4 none :: wsL_law) B.pre w (List.mem_cons_of_mem _ h)
  have hown : s.vm.findClass RX3 = some m.cls := findClass_of_methodNamed B.named
  have hlocks := B.notSynchronized
  subst hsz
  have hD := hD0.self (sz := s.heap.size)
  generalize hAe : va_A [(o, .inr (2, [.int 0, .int 0, .ref q, .int 0])), (q, .inl (k 1, 40, .inr (.inl (fun _ => 0))))] s.heap.size = A at hD ⊢
  have hA : ∀ q : Nat, s.heap.size ≤ q → A q := fun q h => by rw [← hAe]; exact Or.inr h
  have hS : va_S A s.heap s.heap [] := va_S.rf
  have hP : va_P D vwCl [(o, .inr (2, [.int 0, .int 0, .ref q, .int 0])), (q, .inl (k 1, 40, .inr (.inl (fun _ => 0))))] s.heap := hP
  have hl := lv_entry ([.ref o, .int x, .int z]) (n := 4) (Nat.le_of_ble_eq_true rfl)
  rw [lg_entry_eq]
  generalize (lg_sl ([.ref o, .int x, .int z]) ++ List.replicate (4 - (lg_sl ([.ref o, .int x, .int z])).length) Slot.unset).toArray = ls at hl ⊢
  have hl : lv_has ls 4 [(0, .ref o), (1, .int x), (2, .int z)] := hl
  refine lv_aload_n hx hb dX3_begin_0 rfl (lv_at hl 0 rfl) ?_
  refine lv_iconst (v := 1) hx hb dX3_begin_1 (by decide) ?_
  refine va_put (D := D) (ci := 2) (v := .int 1) (ty := .boolean) (C := RX3) (T := TX3) (N := 4) hx hb hts inlX3 tyX3 tyX3_ok nmX3 hown hK hP hD hS 0 rfl rfl 0 (by decide) (hts _ mw_1133) (fun _ h9 => h9) rfl (by decide +kernel) rfl rfl (Nat.le_of_ble_eq_true rfl) dX3_begin_2 (fun H locs hP hD hS => ?_)
  have hP : va_P D vwCl [(o, .inr (2, [.int 1, .int 0, .ref q, .int 0])), (q, .inl (k 1, 40, .inr (.inl (fun _ => 0))))] H := hP
  have hD : va_D A [(o, .inr (2, [.int 1, .int 0, .ref q, .int 0])), (q, .inl (k 1, 40, .inr (.inl (fun _ => 0))))] := hD
  refine lv_aload_n hx hb dX3_begin_5 rfl (lv_at hl 0 rfl) ?_
  refine lv_iload_n hx hb dX3_begin_6 rfl (lv_at hl 1 rfl) ?_
  refine va_put (D := D) (ci := 2) (v := .int x) (ty := .int) (C := RX3) (T := TX3) (N := 4) hx hb hts inlX3 tyX3 tyX3_ok nmX3 hown hK hP hD hS 0 rfl rfl 3 (by decide) (hts _ mw_1134) (fun _ h9 => h9) rfl (by decide +kernel) rfl rfl (Nat.le_of_ble_eq_true rfl) dX3_begin_7 (fun H locs hP hD hS => ?_)
  have hP : va_P D vwCl [(o, .inr (2, [.int 1, .int 0, .ref q, .int x])), (q, .inl (k 1, 40, .inr (.inl (fun _ => 0))))] H := hP
  have hD : va_D A [(o, .inr (2, [.int 1, .int 0, .ref q, .int x])), (q, .inl (k 1, 40, .inr (.inl (fun _ => 0))))] := hD
  refine lv_aload_n hx hb dX3_begin_10 rfl (lv_at hl 0 rfl) ?_
  refine lv_iload_n hx hb dX3_begin_11 rfl (lv_at hl 2 rfl) ?_
  refine va_put (D := D) (ci := 2) (v := .int z) (ty := .int) (C := RX3) (T := TX3) (N := 4) hx hb hts inlX3 tyX3 tyX3_ok nmX3 hown hK hP hD hS 0 rfl rfl 1 (by decide) (hts _ mw_990) (fun _ h9 => h9) rfl (by decide +kernel) rfl rfl (Nat.le_of_ble_eq_true rfl) dX3_begin_12 (fun H locs hP hD hS => ?_)
  have hP : va_P D vwCl [(o, .inr (2, [.int 1, .int z, .ref q, .int x])), (q, .inl (k 1, 40, .inr (.inl (fun _ => 0))))] H := hP
  have hD : va_D A [(o, .inr (2, [.int 1, .int z, .ref q, .int x])), (q, .inl (k 1, 40, .inr (.inl (fun _ => 0))))] := hD
  refine lv_iconst (v := 0) hx hb dX3_begin_15 (by decide) ?_
  refine lv_istore_n (lv' := [(3, .int 0), (0, .ref o), (1, .int x), (2, .int z)]) hx hb dX3_begin_16 rfl hl (by decide) rfl (fun ls hl => ?_)
  refine W_loop (σ := Int32) (fun xx H locs ls => (0 ≤ xx.toInt ∧ xx.toInt ≤ 40) ∧ va_P D vwCl [(o, .inr (2, [.int 1, .int z, .ref q, .int x])), (q, .inl (k 1, 40, .inr (.inl (fun _ => 0))))] H ∧ va_D A [(o, .inr (2, [.int 1, .int z, .ref q, .int x])), (q, .inl (k 1, 40, .inr (.inl (fun _ => 0))))] ∧ va_S A s.heap H locs ∧ lv_has ls 4 [(3, .int xx), (0, .ref o), (1, .int x), (2, .int z)]) (fun xx => (40 - xx.toInt).toNat) ?_ (0) _ _ ls ⟨(show 0 ≤ (0 : Int32).toInt ∧ (0 : Int32).toInt ≤ 40 from ⟨by decide, by decide⟩), hP.sub [0, 1] rfl, hD.sub [0, 1] (by decide) rfl, hS, lv_sub hl [0, 1, 2, 3] rfl⟩
  intro xx H locs ls hI ih
  obtain ⟨i_1, rfl⟩ : ∃ z, z = xx := ⟨_, rfl⟩
  obtain ⟨h_2, hP, hD, hS, hl⟩ := hI
  have h_2 : 0 ≤ i_1.toInt ∧ i_1.toInt ≤ 40 := h_2
  obtain ⟨h_2a, h_2b⟩ := h_2
  have hP : va_P D vwCl [(o, .inr (2, [.int 1, .int z, .ref q, .int x])), (q, .inl (k 1, 40, .inr (.inl (fun _ => 0))))] H := hP
  have hD : va_D A [(o, .inr (2, [.int 1, .int z, .ref q, .int x])), (q, .inl (k 1, 40, .inr (.inl (fun _ => 0))))] := hD
  have hl : lv_has ls 4 [(3, .int i_1), (0, .ref o), (1, .int x), (2, .int z)] := hl
  refine lv_iload_n hx hb dX3_begin_17 rfl (lv_at hl 0 rfl) ?_
  refine lv_bipush (v := 40) hx hb dX3_begin_18 (by decide) ?_
  refine lv_icmp_ge (tgt := 36) hx hb dX3_begin_20 (by decide) (fun c_3 => ?_) (fun c_3 => ?_)
  · have c_3 : 40 ≤ i_1.toInt := ti_le c_3
    have qc_3 : i_1 = 40 := ti_of (show i_1.toInt = 40 from by omega)
    have hP9 := hP.sub (ws' := [(o, .inr (2, [.int 1, .int z, .ref q, .int x])), (q, .inl (k 1, 40, .inr (.inl (fun _ => 0))))]) [0, 1] rfl
    have hD9 := hD.sub (ws' := [(o, .inr (2, [.int 1, .int z, .ref q, .int x])), (q, .inl (k 1, 40, .inr (.inl (fun _ => 0))))]) [0, 1] (by decide) rfl
    exact W.vret hx hb hr (fun t ht hW => ⟨⟨(), rfl, trivial, by rw [ht]; exact hP9, hD9⟩, hS.F ht⟩) hS.2.2 dX3_begin_36
  · have c_3 : i_1.toInt < 40 := ti_nle c_3
    refine lv_aload_n hx hb dX3_begin_23 rfl (lv_at hl 1 rfl) ?_
    refine va_get (D := D) (ci := 2) (v := .ref q) (C := RX3) (T := TX3) (N := 4) hx hb hts inlX3 hown hK hP 0 rfl rfl 2 (by decide) (hts _ mw_86) (fun _ h9 => h9) rfl dX3_begin_24 ?_
    refine lv_iload_n hx hb dX3_begin_27 rfl (lv_at hl 0 rfl) ?_
    refine lv_lconst (v := 0) hx hb dX3_begin_28 (by decide) ?_
    refine va_last hx hb hK hP hD hS 1 1 rfl rfl (vp_in_o (by omega) (by omega)) dX3_begin_29 (fun H locs hP hD hS => ?_)
    have hP : va_P D vwCl [(o, .inr (2, [.int 1, .int z, .ref q, .int x])), (q, .inl (k 1, 40, .inr (.inl (vp_updL (fun _ => 0) i_1.toNatClampNeg 0))))] H := hP
    have hD : va_D A [(o, .inr (2, [.int 1, .int z, .ref q, .int x])), (q, .inl (k 1, 40, .inr (.inl (vp_updL (fun _ => 0) i_1.toNatClampNeg 0))))] := hD
    rw [updL0] at hP hD
    obtain ⟨z_4, ez_4⟩ : ∃ y : Int32, y = i_1 + 1 := ⟨_, rfl⟩
    have tz_4 : z_4.toInt = i_1.toInt + 1 := by rw [ez_4]; exact ti_addc (by decide) (by omega) (by omega)
    refine lv_iinc (v := z_4) (lv' := [(3, .int z_4), (0, .ref o), (1, .int x), (2, .int z)]) hx hb dX3_begin_30 hl (k := 0) rfl (ez_4.symm) (by decide) rfl (fun ls hl => ?_)
    refine lv_goto (tgt := 17) hx hb dX3_begin_33 (by decide) ?_
    exact ih (z_4) _ _ ls (by show (40 - z_4.toInt).toNat < (40 - i_1.toInt).toNat; omega) ⟨(show 0 ≤ z_4.toInt ∧ z_4.toInt ≤ 40 from ⟨by omega, by omega⟩), hP.sub [0, 1] rfl, hD.sub [0, 1] (by decide) rfl, hS, lv_sub hl [0, 1, 2, 3] rfl⟩
