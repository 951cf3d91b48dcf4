theorem dX7_feed_0 : decode cX7_feed 0 = .ok (.aload_n 0, 1) := by decide +kernel
theorem dX7_feed_1 : decode cX7_feed 1 = .ok (.getfield 10, 3) := by decide +kernel
theorem mw_16 : Cond.fieldLink RX7 10 "ThatchNext" "reader" "LThatchNext$Reader;" ∈ wsL_law := List.mem_of_getElem? (i := 16) (by decide +kernel)
theorem dX7_feed_4 : decode cX7_feed 4 = .ok (.getfield 70, 3) := by decide +kernel
theorem mw_115 : Cond.fieldLink RX7 70 "ThatchNext$Reader" "taped" "I" ∈ wsL_law := List.mem_of_getElem? (i := 115) (by decide +kernel)
theorem dX7_feed_7 : decode cX7_feed 7 = .ok (.bipush 20, 2) := by decide +kernel
theorem dX7_feed_9 : decode cX7_feed 9 = .ok (.iadd, 1) := by decide +kernel
theorem dX7_feed_10 : decode cX7_feed 10 = .ok (.sipush 900, 3) := by decide +kernel
theorem dX7_feed_13 : decode cX7_feed 13 = .ok (.if_icmp .le 6, 3) := by decide +kernel
theorem dX7_feed_19 : decode cX7_feed 19 = .ok (.aload_n 0, 1) := by decide +kernel
theorem dX7_feed_20 : decode cX7_feed 20 = .ok (.getfield 10, 3) := by decide +kernel
theorem dX7_feed_23 : decode cX7_feed 23 = .ok (.iload_n 1, 1) := by decide +kernel
theorem dX7_feed_24 : decode cX7_feed 24 = .ok (.invokevirtual 74, 3) := by decide +kernel
theorem hd_yX5_takeInt : HD yX5_takeInt RX5 1 := by decide +kernel
theorem mw_116 : Cond.methodLink RX7 74 yX5_takeInt ∈ wsL_law := List.mem_of_getElem? (i := 116) (by decide +kernel)
theorem mw_117 : Cond.instanceMethod yX5_takeInt ∈ wsL_law := List.mem_of_getElem? (i := 117) (by decide +kernel)
theorem mw_118 : Cond.selects RX5 yX5_takeInt yX5_takeInt ∈ wsL_law := List.mem_of_getElem? (i := 118) (by decide +kernel)
theorem mw_119 : Cond.code yX5_takeInt cX5_takeInt 3 none ∈ wsL_law := List.mem_of_getElem? (i := 119) (by decide +kernel)
theorem dX7_feed_27 : decode cX7_feed 27 = .ok (.aload_n 0, 1) := by decide +kernel
theorem dX7_feed_28 : decode cX7_feed 28 = .ok (.getfield 10, 3) := by decide +kernel
theorem dX7_feed_31 : decode cX7_feed 31 = .ok (.iload_n 2, 1) := by decide +kernel
theorem dX7_feed_32 : decode cX7_feed 32 = .ok (.invokevirtual 74, 3) := by decide +kernel
theorem dX7_feed_35 : decode cX7_feed 35 = .ok (.aload_n 0, 1) := by decide +kernel
theorem dX7_feed_36 : decode cX7_feed 36 = .ok (.getfield 10, 3) := by decide +kernel
theorem dX7_feed_39 : decode cX7_feed 39 = .ok (.iload_n 3, 1) := by decide +kernel
theorem dX7_feed_40 : decode cX7_feed 40 = .ok (.invokevirtual 74, 3) := by decide +kernel
theorem dX7_feed_43 : decode cX7_feed 43 = .ok (.aload_n 0, 1) := by decide +kernel
theorem dX7_feed_44 : decode cX7_feed 44 = .ok (.getfield 10, 3) := by decide +kernel
theorem dX7_feed_47 : decode cX7_feed 47 = .ok (.iload 4, 2) := by decide +kernel
theorem dX7_feed_49 : decode cX7_feed 49 = .ok (.invokevirtual 74, 3) := by decide +kernel
theorem dX7_feed_52 : decode cX7_feed 52 = .ok (.aload_n 0, 1) := by decide +kernel
theorem dX7_feed_53 : decode cX7_feed 53 = .ok (.getfield 10, 3) := by decide +kernel
theorem dX7_feed_56 : decode cX7_feed 56 = .ok (.iload 5, 2) := by decide +kernel
theorem dX7_feed_58 : decode cX7_feed 58 = .ok (.invokevirtual 74, 3) := by decide +kernel
theorem dX7_feed_61 : decode cX7_feed 61 = .ok (.aload_n 0, 1) := by decide +kernel
theorem dX7_feed_62 : decode cX7_feed 62 = .ok (.getfield 10, 3) := by decide +kernel
theorem dX7_feed_65 : decode cX7_feed 65 = .ok (.getfield 70, 3) := by decide +kernel
theorem dX7_feed_68 : decode cX7_feed 68 = .ok (.ireturn, 1) := by decide +kernel
theorem dX7_row_0 : decode cX7_row 0 = .ok (.iload_n 1, 1) := by decide +kernel
theorem dX7_row_1 : decode cX7_row 1 = .ok (.ifCond .lt 14, 3) := by decide +kernel
theorem dX7_row_15 : decode cX7_row 15 = .ok (.bipush (-3), 2) := by decide +kernel
theorem dX7_row_17 : decode cX7_row 17 = .ok (.ireturn, 1) := by decide +kernel
theorem dX7_row_4 : decode cX7_row 4 = .ok (.iload_n 1, 1) := by decide +kernel
theorem dX7_row_5 : decode cX7_row 5 = .ok (.aload_n 0, 1) := by decide +kernel
theorem dX7_row_6 : decode cX7_row 6 = .ok (.getfield 10, 3) := by decide +kernel
theorem dX7_row_9 : decode cX7_row 9 = .ok (.getfield 70, 3) := by decide +kernel
theorem dX7_row_12 : decode cX7_row 12 = .ok (.if_icmp .le 6, 3) := by decide +kernel
theorem dX7_row_18 : decode cX7_row 18 = .ok (.aload_n 0, 1) := by decide +kernel
theorem dX7_row_19 : decode cX7_row 19 = .ok (.getfield 10, 3) := by decide +kernel
theorem dX7_row_22 : decode cX7_row 22 = .ok (.iload_n 1, 1) := by decide +kernel
theorem dX7_row_23 : decode cX7_row 23 = .ok (.invokevirtual 78, 3) := by decide +kernel
theorem hd_yX5_read : HD yX5_read RX5 1 := by decide +kernel
theorem mw_136 : Cond.methodLink RX7 78 yX5_read ∈ wsL_law := List.mem_of_getElem? (i := 136) (by decide +kernel)
theorem mw_137 : Cond.instanceMethod yX5_read ∈ wsL_law := List.mem_of_getElem? (i := 137) (by decide +kernel)
theorem mw_138 : Cond.selects RX5 yX5_read yX5_read ∈ wsL_law := List.mem_of_getElem? (i := 138) (by decide +kernel)
theorem mw_139 : Cond.code yX5_read cX5_read 3 none ∈ wsL_law := List.mem_of_getElem? (i := 139) (by decide +kernel)
theorem dX7_row_26 : decode cX7_row 26 = .ok (.aload_n 0, 1) := by decide +kernel
theorem dX7_row_27 : decode cX7_row 27 = .ok (.getfield 10, 3) := by decide +kernel
theorem dX7_row_30 : decode cX7_row 30 = .ok (.getfield 81, 3) := by decide +kernel
theorem mw_131 : Cond.fieldLink RX7 81 "ThatchNext$Reader" "fault" "I" ∈ wsL_law := List.mem_of_getElem? (i := 131) (by decide +kernel)
theorem dX7_row_33 : decode cX7_row 33 = .ok (.ifCond .eq 14, 3) := by decide +kernel
theorem dX7_row_47 : decode cX7_row 47 = .ok (.aload_n 0, 1) := by decide +kernel
theorem dX7_row_48 : decode cX7_row 48 = .ok (.dup, 1) := by decide +kernel
theorem dX7_row_49 : decode cX7_row 49 = .ok (.getfield 84, 3) := by decide +kernel
theorem mw_132 : Cond.fieldLink RX7 84 "ThatchNext" "tellings" "I" ∈ wsL_law := List.mem_of_getElem? (i := 132) (by decide +kernel)
theorem dX7_row_52 : decode cX7_row 52 = .ok (.iconst 1, 1) := by decide +kernel
theorem dX7_row_53 : decode cX7_row 53 = .ok (.iadd, 1) := by decide +kernel
theorem dX7_row_54 : decode cX7_row 54 = .ok (.putfield 84, 3) := by decide +kernel
theorem dX7_row_57 : decode cX7_row 57 = .ok (.aload_n 0, 1) := by decide +kernel
theorem dX7_row_58 : decode cX7_row 58 = .ok (.getfield 19, 3) := by decide +kernel
theorem dX7_row_61 : decode cX7_row 61 = .ok (.aload_n 0, 1) := by decide +kernel
theorem dX7_row_62 : decode cX7_row 62 = .ok (.getfield 10, 3) := by decide +kernel
theorem dX7_row_65 : decode cX7_row 65 = .ok (.getfield 87, 3) := by decide +kernel
theorem mw_133 : Cond.fieldLink RX7 87 "ThatchNext$Reader" "world" "LThatchNext$World;" ∈ wsL_law := List.mem_of_getElem? (i := 133) (by decide +kernel)
theorem dX7_row_68 : decode cX7_row 68 = .ok (.invokevirtual 90, 3) := by decide +kernel
theorem mw_275 : Cond.methodLink RX7 90 yX6_copyFrom ∈ wsL_law := List.mem_of_getElem? (i := 275) (by decide +kernel)
theorem dX7_row_71 : decode cX7_row 71 = .ok (.aload_n 0, 1) := by decide +kernel
theorem dX7_row_72 : decode cX7_row 72 = .ok (.getfield 19, 3) := by decide +kernel
theorem dX7_row_75 : decode cX7_row 75 = .ok (.aload_n 0, 1) := by decide +kernel
theorem dX7_row_76 : decode cX7_row 76 = .ok (.getfield 84, 3) := by decide +kernel
theorem dX7_row_79 : decode cX7_row 79 = .ok (.putfield 94, 3) := by decide +kernel
theorem mw_134 : Cond.fieldLink RX7 94 "ThatchNext$World" "told" "I" ∈ wsL_law := List.mem_of_getElem? (i := 134) (by decide +kernel)
theorem dX7_row_82 : decode cX7_row 82 = .ok (.aload_n 0, 1) := by decide +kernel
theorem dX7_row_83 : decode cX7_row 83 = .ok (.getfield 19, 3) := by decide +kernel
theorem dX7_row_86 : decode cX7_row 86 = .ok (.getfield 97, 3) := by decide +kernel
theorem mw_135 : Cond.fieldLink RX7 97 "ThatchNext$World" "lines" "I" ∈ wsL_law := List.mem_of_getElem? (i := 135) (by decide +kernel)
theorem dX7_row_89 : decode cX7_row 89 = .ok (.ireturn, 1) := by decide +kernel
theorem dX7_fault_0 : decode cX7_fault 0 = .ok (.iload_n 1, 1) := by decide +kernel
theorem dX7_fault_1 : decode cX7_fault 1 = .ok (.ifCond .ne 11, 3) := by decide +kernel
theorem dX7_fault_12 : decode cX7_fault 12 = .ok (.iload_n 1, 1) := by decide +kernel
theorem dX7_fault_13 : decode cX7_fault 13 = .ok (.iconst 1, 1) := by decide +kernel
theorem dX7_fault_14 : decode cX7_fault 14 = .ok (.if_icmp .ne 13, 3) := by decide +kernel
theorem dX7_fault_27 : decode cX7_fault 27 = .ok (.iconst (-1), 1) := by decide +kernel
theorem dX7_fault_28 : decode cX7_fault 28 = .ok (.ireturn, 1) := by decide +kernel
theorem dX7_fault_17 : decode cX7_fault 17 = .ok (.aload_n 0, 1) := by decide +kernel
theorem dX7_fault_18 : decode cX7_fault 18 = .ok (.getfield 10, 3) := by decide +kernel
theorem dX7_fault_21 : decode cX7_fault 21 = .ok (.getfield 100, 3) := by decide +kernel
theorem mw_351 : Cond.fieldLink RX7 100 "ThatchNext$Reader" "faultPlace" "I" ∈ wsL_law := List.mem_of_getElem? (i := 351) (by decide +kernel)
theorem dX7_fault_24 : decode cX7_fault 24 = .ok (.goto 4, 3) := by decide +kernel
theorem dX7_fault_4 : decode cX7_fault 4 = .ok (.aload_n 0, 1) := by decide +kernel
theorem dX7_fault_5 : decode cX7_fault 5 = .ok (.getfield 10, 3) := by decide +kernel
theorem dX7_fault_8 : decode cX7_fault 8 = .ok (.getfield 81, 3) := by decide +kernel
theorem dX7_fault_11 : decode cX7_fault 11 = .ok (.ireturn, 1) := by decide +kernel
theorem dX7_roof_0 : decode cX7_roof 0 = .ok (.aload_n 0, 1) := by decide +kernel
theorem dX7_roof_1 : decode cX7_roof 1 = .ok (.getfield 19, 3) := by decide +kernel
theorem dX7_roof_4 : decode cX7_roof 4 = .ok (.iload_n 1, 1) := by decide +kernel
theorem dX7_roof_5 : decode cX7_roof 5 = .ok (.invokevirtual 103, 3) := by decide +kernel
theorem dX7_roof_8 : decode cX7_roof 8 = .ok (.ifCond .ne 6, 3) := by decide +kernel
theorem dX7_roof_11 : decode cX7_roof 11 = .ok (.bipush (-2), 2) := by decide +kernel
theorem dX7_roof_13 : decode cX7_roof 13 = .ok (.ireturn, 1) := by decide +kernel
theorem dX7_layer_0 : decode cX7_layer 0 = .ok (.aload_n 0, 1) := by decide +kernel
theorem dX7_layer_1 : decode cX7_layer 1 = .ok (.getfield 19, 3) := by decide +kernel
theorem dX7_layer_4 : decode cX7_layer 4 = .ok (.iload_n 1, 1) := by decide +kernel
theorem dX7_layer_5 : decode cX7_layer 5 = .ok (.invokevirtual 103, 3) := by decide +kernel
theorem dX7_layer_8 : decode cX7_layer 8 = .ok (.ifCond .eq 13, 3) := by decide +kernel
theorem dX7_layer_21 : decode cX7_layer 21 = .ok (.bipush (-2), 2) := by decide +kernel
theorem dX7_layer_23 : decode cX7_layer 23 = .ok (.ireturn, 1) := by decide +kernel
theorem dX7_leaksIn_0 : decode cX7_leaksIn 0 = .ok (.aload_n 0, 1) := by decide +kernel
theorem dX7_leaksIn_1 : decode cX7_leaksIn 1 = .ok (.getfield 19, 3) := by decide +kernel
theorem dX7_leaksIn_4 : decode cX7_leaksIn 4 = .ok (.iload_n 1, 1) := by decide +kernel
theorem dX7_leaksIn_5 : decode cX7_leaksIn 5 = .ok (.invokevirtual 103, 3) := by decide +kernel
theorem dX7_leaksIn_8 : decode cX7_leaksIn 8 = .ok (.ifCond .ne 6, 3) := by decide +kernel
theorem dX7_leaksIn_11 : decode cX7_leaksIn 11 = .ok (.bipush (-2), 2) := by decide +kernel
theorem dX7_leaksIn_13 : decode cX7_leaksIn 13 = .ok (.ireturn, 1) := by decide +kernel
theorem dX7_spread_0 : decode cX7_spread 0 = .ok (.aload_n 0, 1) := by decide +kernel
theorem dX7_spread_1 : decode cX7_spread 1 = .ok (.getfield 19, 3) := by decide +kernel
theorem dX7_spread_4 : decode cX7_spread 4 = .ok (.iload_n 1, 1) := by decide +kernel
theorem dX7_spread_5 : decode cX7_spread 5 = .ok (.invokevirtual 103, 3) := by decide +kernel
theorem dX7_spread_8 : decode cX7_spread 8 = .ok (.ifCond .eq 14, 3) := by decide +kernel
theorem dX7_spread_22 : decode cX7_spread 22 = .ok (.bipush (-2), 2) := by decide +kernel
theorem dX7_spread_24 : decode cX7_spread 24 = .ok (.ireturn, 1) := by decide +kernel
theorem dX7_mice_0 : decode cX7_mice 0 = .ok (.aload_n 0, 1) := by decide +kernel
theorem dX7_mice_1 : decode cX7_mice 1 = .ok (.getfield 19, 3) := by decide +kernel
theorem dX7_mice_4 : decode cX7_mice 4 = .ok (.iload_n 1, 1) := by decide +kernel
theorem dX7_mice_5 : decode cX7_mice 5 = .ok (.invokevirtual 103, 3) := by decide +kernel
theorem dX7_mice_8 : decode cX7_mice 8 = .ok (.ifCond .ne 6, 3) := by decide +kernel
theorem dX7_mice_11 : decode cX7_mice 11 = .ok (.bipush (-2), 2) := by decide +kernel
theorem dX7_mice_13 : decode cX7_mice 13 = .ok (.ireturn, 1) := by decide +kernel
theorem dX7_spark_0 : decode cX7_spark 0 = .ok (.aload_n 0, 1) := by decide +kernel
theorem dX7_spark_1 : decode cX7_spark 1 = .ok (.getfield 19, 3) := by decide +kernel
theorem dX7_spark_4 : decode cX7_spark 4 = .ok (.iload_n 1, 1) := by decide +kernel
theorem dX7_spark_5 : decode cX7_spark 5 = .ok (.invokevirtual 103, 3) := by decide +kernel
theorem dX7_spark_8 : decode cX7_spark 8 = .ok (.ifCond .ne 6, 3) := by decide +kernel
theorem dX7_spark_11 : decode cX7_spark 11 = .ok (.bipush (-2), 2) := by decide +kernel
theorem dX7_spark_13 : decode cX7_spark 13 = .ok (.ireturn, 1) := by decide +kernel
theorem dX7_harms_0 : decode cX7_harms 0 = .ok (.aload_n 0, 1) := by decide +kernel
theorem dX7_harms_1 : decode cX7_harms 1 = .ok (.getfield 19, 3) := by decide +kernel
theorem dX7_harms_4 : decode cX7_harms 4 = .ok (.iload_n 2, 1) := by decide +kernel
theorem dX7_harms_5 : decode cX7_harms 5 = .ok (.invokevirtual 103, 3) := by decide +kernel
theorem dX7_harms_8 : decode cX7_harms 8 = .ok (.ifCond .ne 6, 3) := by decide +kernel
theorem dX7_harms_11 : decode cX7_harms 11 = .ok (.bipush (-2), 2) := by decide +kernel
theorem dX7_harms_13 : decode cX7_harms 13 = .ok (.ireturn, 1) := by decide +kernel
theorem dX7_copy_0 : decode cX7_copy 0 = .ok (.aload_n 0, 1) := by decide +kernel
theorem dX7_copy_1 : decode cX7_copy 1 = .ok (.getfield 19, 3) := by decide +kernel
theorem dX7_copy_4 : decode cX7_copy 4 = .ok (.iload_n 1, 1) := by decide +kernel
theorem dX7_copy_5 : decode cX7_copy 5 = .ok (.invokevirtual 103, 3) := by decide +kernel
theorem dX7_copy_8 : decode cX7_copy 8 = .ok (.ifCond .eq 10, 3) := by decide +kernel
theorem dX7_copy_18 : decode cX7_copy 18 = .ok (.bipush (-2), 2) := by decide +kernel
theorem dX7_copy_20 : decode cX7_copy 20 = .ok (.ireturn, 1) := by decide +kernel
theorem dX7_mend_0 : decode cX7_mend 0 = .ok (.iload_n 2, 1) := by decide +kernel
theorem dX7_mend_1 : decode cX7_mend 1 = .ok (.ifCond .lt 8, 3) := by decide +kernel
theorem dX7_mend_9 : decode cX7_mend 9 = .ok (.bipush (-2), 2) := by decide +kernel
theorem dX7_mend_11 : decode cX7_mend 11 = .ok (.goto 8, 3) := by decide +kernel
theorem dX7_mend_19 : decode cX7_mend 19 = .ok (.istore_n 3, 1) := by decide +kernel
theorem dX7_mend_20 : decode cX7_mend 20 = .ok (.iload_n 3, 1) := by decide +kernel
theorem dX7_mend_21 : decode cX7_mend 21 = .ok (.ifCond .eq 5, 3) := by decide +kernel
theorem dX7_mend_24 : decode cX7_mend 24 = .ok (.iload_n 3, 1) := by decide +kernel
theorem dX7_mend_25 : decode cX7_mend 25 = .ok (.ireturn, 1) := by decide +kernel
theorem dX7_mend_4 : decode cX7_mend 4 = .ok (.iload_n 2, 1) := by decide +kernel
theorem dX7_mend_5 : decode cX7_mend 5 = .ok (.iconst 1, 1) := by decide +kernel
theorem dX7_mend_6 : decode cX7_mend 6 = .ok (.if_icmp .le 8, 3) := by decide +kernel
theorem dX7_mend_14 : decode cX7_mend 14 = .ok (.aload_n 0, 1) := by decide +kernel
theorem dX7_mend_15 : decode cX7_mend 15 = .ok (.iload_n 1, 1) := by decide +kernel
theorem dX7_mend_16 : decode cX7_mend 16 = .ok (.invokevirtual 212, 3) := by decide +kernel
theorem hd_yX7_thatchRefusal : HD yX7_thatchRefusal RX7 1 := by decide +kernel
theorem mw_673 : Cond.methodLink RX7 212 yX7_thatchRefusal ∈ wsL_law := List.mem_of_getElem? (i := 673) (by decide +kernel)
theorem mw_674 : Cond.instanceMethod yX7_thatchRefusal ∈ wsL_law := List.mem_of_getElem? (i := 674) (by decide +kernel)
theorem mw_675 : Cond.selects RX7 yX7_thatchRefusal yX7_thatchRefusal ∈ wsL_law := List.mem_of_getElem? (i := 675) (by decide +kernel)
theorem mw_2 : Cond.initialized RX7 ∈ wsL_law := List.mem_of_getElem? (i := 2) (by decide +kernel)
theorem mw_676 : Cond.code yX7_thatchRefusal cX7_thatchRefusal 2 (some .int) ∈ wsL_law := List.mem_of_getElem? (i := 676) (by decide +kernel)
theorem dX7_slate_0 : decode cX7_slate 0 = .ok (.aload_n 0, 1) := by decide +kernel
theorem dX7_slate_1 : decode cX7_slate 1 = .ok (.iload_n 1, 1) := by decide +kernel
theorem dX7_slate_2 : decode cX7_slate 2 = .ok (.invokevirtual 212, 3) := by decide +kernel
theorem dX7_slate_5 : decode cX7_slate 5 = .ok (.istore_n 2, 1) := by decide +kernel
theorem dX7_slate_6 : decode cX7_slate 6 = .ok (.iload_n 2, 1) := by decide +kernel
theorem dX7_slate_7 : decode cX7_slate 7 = .ok (.ifCond .eq 5, 3) := by decide +kernel
theorem dX7_slate_10 : decode cX7_slate 10 = .ok (.iload_n 2, 1) := by decide +kernel
theorem dX7_slate_11 : decode cX7_slate 11 = .ok (.ireturn, 1) := by decide +kernel
theorem dX7_burn_0 : decode cX7_burn 0 = .ok (.aload_n 0, 1) := by decide +kernel
theorem dX7_burn_1 : decode cX7_burn 1 = .ok (.iload_n 1, 1) := by decide +kernel
theorem dX7_burn_2 : decode cX7_burn 2 = .ok (.invokevirtual 212, 3) := by decide +kernel
theorem dX7_burn_5 : decode cX7_burn 5 = .ok (.istore_n 2, 1) := by decide +kernel
theorem dX7_burn_6 : decode cX7_burn 6 = .ok (.iload_n 2, 1) := by decide +kernel
theorem dX7_burn_7 : decode cX7_burn 7 = .ok (.ifCond .eq 5, 3) := by decide +kernel
theorem dX7_burn_10 : decode cX7_burn 10 = .ok (.iload_n 2, 1) := by decide +kernel
theorem dX7_burn_11 : decode cX7_burn 11 = .ok (.ireturn, 1) := by decide +kernel
theorem dX7_cat_0 : decode cX7_cat 0 = .ok (.aload_n 0, 1) := by decide +kernel
theorem dX7_cat_1 : decode cX7_cat 1 = .ok (.iload_n 1, 1) := by decide +kernel
theorem dX7_cat_2 : decode cX7_cat 2 = .ok (.invokevirtual 212, 3) := by decide +kernel
theorem dX7_cat_5 : decode cX7_cat 5 = .ok (.istore_n 2, 1) := by decide +kernel
theorem dX7_cat_6 : decode cX7_cat 6 = .ok (.iload_n 2, 1) := by decide +kernel
theorem dX7_cat_7 : decode cX7_cat 7 = .ok (.ifCond .eq 5, 3) := by decide +kernel
theorem dX7_cat_10 : decode cX7_cat 10 = .ok (.iload_n 2, 1) := by decide +kernel
theorem dX7_cat_11 : decode cX7_cat 11 = .ok (.ireturn, 1) := by decide +kernel
theorem dX7_year_0 : decode cX7_year 0 = .ok (.aload_n 0, 1) := by decide +kernel
theorem dX7_year_1 : decode cX7_year 1 = .ok (.getfield 19, 3) := by decide +kernel
theorem dX7_year_4 : decode cX7_year 4 = .ok (.iload_n 1, 1) := by decide +kernel
theorem dX7_year_5 : decode cX7_year 5 = .ok (.invokevirtual 162, 3) := by decide +kernel
theorem hd_yX6_maySkip : HD yX6_maySkip RX6 1 := by decide +kernel
theorem mw_465 : Cond.methodLink RX7 162 yX6_maySkip ∈ wsL_law := List.mem_of_getElem? (i := 465) (by decide +kernel)
theorem mw_466 : Cond.instanceMethod yX6_maySkip ∈ wsL_law := List.mem_of_getElem? (i := 466) (by decide +kernel)
theorem mw_467 : Cond.selects RX6 yX6_maySkip yX6_maySkip ∈ wsL_law := List.mem_of_getElem? (i := 467) (by decide +kernel)
theorem mw_468 : Cond.code yX6_maySkip cX6_maySkip 3 (some .boolean) ∈ wsL_law := List.mem_of_getElem? (i := 468) (by decide +kernel)
theorem dX7_year_8 : decode cX7_year 8 = .ok (.ifCond .ne 6, 3) := by decide +kernel
theorem dX7_year_14 : decode cX7_year 14 = .ok (.aload_n 0, 1) := by decide +kernel
theorem dX7_year_15 : decode cX7_year 15 = .ok (.getfield 19, 3) := by decide +kernel
theorem dX7_year_18 : decode cX7_year 18 = .ok (.getfield 165, 3) := by decide +kernel
theorem mw_464 : Cond.fieldLink RX7 165 "ThatchNext$World" "year" "I" ∈ wsL_law := List.mem_of_getElem? (i := 464) (by decide +kernel)
theorem dX7_year_21 : decode cX7_year 21 = .ok (.sipush 999, 3) := by decide +kernel
theorem dX7_year_24 : decode cX7_year 24 = .ok (.if_icmp .lt 6, 3) := by decide +kernel
theorem dX7_year_30 : decode cX7_year 30 = .ok (.aload_n 0, 1) := by decide +kernel
theorem dX7_year_31 : decode cX7_year 31 = .ok (.getfield 19, 3) := by decide +kernel
theorem dX7_year_34 : decode cX7_year 34 = .ok (.iload_n 1, 1) := by decide +kernel
theorem dX7_year_35 : decode cX7_year 35 = .ok (.invokevirtual 168, 3) := by decide +kernel
theorem mw_478 : Cond.methodLink RX7 168 yX6_passYear ∈ wsL_law := List.mem_of_getElem? (i := 478) (by decide +kernel)
theorem dX7_year_38 : decode cX7_year 38 = .ok (.aload_n 0, 1) := by decide +kernel
theorem dX7_year_39 : decode cX7_year 39 = .ok (.getfield 19, 3) := by decide +kernel
theorem dX7_year_42 : decode cX7_year 42 = .ok (.invokevirtual 171, 3) := by decide +kernel
theorem mw_506 : Cond.methodLink RX7 171 yX6_leaking ∈ wsL_law := List.mem_of_getElem? (i := 506) (by decide +kernel)
theorem dX7_year_45 : decode cX7_year 45 = .ok (.ireturn, 1) := by decide +kernel
theorem dX7_year_11 : decode cX7_year 11 = .ok (.bipush (-3), 2) := by decide +kernel
theorem dX7_year_13 : decode cX7_year 13 = .ok (.ireturn, 1) := by decide +kernel
theorem dX7_rain_0 : decode cX7_rain 0 = .ok (.aload_n 0, 1) := by decide +kernel
theorem dX7_rain_1 : decode cX7_rain 1 = .ok (.getfield 19, 3) := by decide +kernel
theorem dX7_rain_4 : decode cX7_rain 4 = .ok (.invokevirtual 175, 3) := by decide +kernel
theorem hd_yX6_rainDown : HD yX6_rainDown RX6 0 := by decide +kernel
theorem mw_552 : Cond.methodLink RX7 175 yX6_rainDown ∈ wsL_law := List.mem_of_getElem? (i := 552) (by decide +kernel)
theorem mw_553 : Cond.instanceMethod yX6_rainDown ∈ wsL_law := List.mem_of_getElem? (i := 553) (by decide +kernel)
theorem mw_554 : Cond.selects RX6 yX6_rainDown yX6_rainDown ∈ wsL_law := List.mem_of_getElem? (i := 554) (by decide +kernel)
theorem mw_555 : Cond.code yX6_rainDown cX6_rainDown 4 (some .int) ∈ wsL_law := List.mem_of_getElem? (i := 555) (by decide +kernel)
theorem dX7_rain_7 : decode cX7_rain 7 = .ok (.ireturn, 1) := by decide +kernel
theorem dX7_judge_0 : decode cX7_judge 0 = .ok (.iload_n 1, 1) := by decide +kernel
theorem dX7_judge_1 : decode cX7_judge 1 = .ok (.invokestatic 178, 3) := by decide +kernel
theorem hd_yX7_isRow : HD yX7_isRow RX7 1 := by decide +kernel
theorem mw_573 : Cond.methodLink RX7 178 yX7_isRow ∈ wsL_law := List.mem_of_getElem? (i := 573) (by decide +kernel)
theorem mw_574 : Cond.static yX7_isRow ∈ wsL_law := List.mem_of_getElem? (i := 574) (by decide +kernel)
theorem mw_575 : Cond.code yX7_isRow cX7_isRow 1 (some .boolean) ∈ wsL_law := List.mem_of_getElem? (i := 575) (by decide +kernel)
theorem dX7_judge_4 : decode cX7_judge 4 = .ok (.ifCond .eq 12, 3) := by decide +kernel
theorem dX7_judge_7 : decode cX7_judge 7 = .ok (.iload_n 2, 1) := by decide +kernel
theorem dX7_judge_8 : decode cX7_judge 8 = .ok (.ifCond .lt 8, 3) := by decide +kernel
theorem dX7_judge_16 : decode cX7_judge 16 = .ok (.bipush (-2), 2) := by decide +kernel
theorem dX7_judge_18 : decode cX7_judge 18 = .ok (.ireturn, 1) := by decide +kernel
theorem dX7_judge_11 : decode cX7_judge 11 = .ok (.iload_n 2, 1) := by decide +kernel
theorem dX7_judge_12 : decode cX7_judge 12 = .ok (.iconst 3, 1) := by decide +kernel
theorem dX7_judge_13 : decode cX7_judge 13 = .ok (.if_icmp .le 6, 3) := by decide +kernel
theorem dX7_judge_19 : decode cX7_judge 19 = .ok (.aload_n 0, 1) := by decide +kernel
theorem dX7_judge_20 : decode cX7_judge 20 = .ok (.getfield 40, 3) := by decide +kernel
theorem mw_26 : Cond.fieldLink RX7 40 "ThatchNext" "rows" "[LThatchNext$Numbers;" ∈ wsL_law := List.mem_of_getElem? (i := 26) (by decide +kernel)
theorem dX7_judge_23 : decode cX7_judge 23 = .ok (.iload_n 1, 1) := by decide +kernel
theorem dX7_judge_24 : decode cX7_judge 24 = .ok (.aaload, 1) := by decide +kernel
theorem dX7_judge_25 : decode cX7_judge 25 = .ok (.astore_n 3, 1) := by decide +kernel
theorem dX7_judge_26 : decode cX7_judge 26 = .ok (.aload_n 3, 1) := by decide +kernel
theorem dX7_judge_27 : decode cX7_judge 27 = .ok (.getfield 181, 3) := by decide +kernel
theorem mw_570 : Cond.fieldLink RX7 181 "ThatchNext$Numbers" "isThere" "Z" ∈ wsL_law := List.mem_of_getElem? (i := 570) (by decide +kernel)
theorem dX7_judge_30 : decode cX7_judge 30 = .ok (.ifCond .ne 6, 3) := by decide +kernel
theorem dX7_judge_33 : decode cX7_judge 33 = .ok (.bipush (-6), 2) := by decide +kernel
theorem dX7_judge_35 : decode cX7_judge 35 = .ok (.ireturn, 1) := by decide +kernel
theorem dX7_perform_0 : decode cX7_perform 0 = .ok (.iload_n 1, 1) := by decide +kernel
theorem dX7_perform_1 : decode cX7_perform 1 = .ok (.invokestatic 178, 3) := by decide +kernel
theorem dX7_perform_4 : decode cX7_perform 4 = .ok (.ifCond .ne 6, 3) := by decide +kernel
theorem dX7_perform_10 : decode cX7_perform 10 = .ok (.aload_n 0, 1) := by decide +kernel
theorem dX7_perform_11 : decode cX7_perform 11 = .ok (.getfield 40, 3) := by decide +kernel
theorem dX7_perform_14 : decode cX7_perform 14 = .ok (.iload_n 1, 1) := by decide +kernel
theorem dX7_perform_15 : decode cX7_perform 15 = .ok (.aaload, 1) := by decide +kernel
theorem dX7_perform_16 : decode cX7_perform 16 = .ok (.getfield 181, 3) := by decide +kernel
theorem dX7_perform_19 : decode cX7_perform 19 = .ok (.ifCond .eq 19, 3) := by decide +kernel
theorem dX7_perform_38 : decode cX7_perform 38 = .ok (.bipush (-6), 2) := by decide +kernel
theorem dX7_perform_40 : decode cX7_perform 40 = .ok (.ireturn, 1) := by decide +kernel
theorem dX7_perform_7 : decode cX7_perform 7 = .ok (.bipush (-2), 2) := by decide +kernel
theorem dX7_perform_9 : decode cX7_perform 9 = .ok (.ireturn, 1) := by decide +kernel
theorem dX7_drawn_0 : decode cX7_drawn 0 = .ok (.iload_n 2, 1) := by decide +kernel
theorem dX7_drawn_1 : decode cX7_drawn 1 = .ok (.iconst 1, 1) := by decide +kernel
theorem dX7_drawn_2 : decode cX7_drawn 2 = .ok (.if_icmp .lt 9, 3) := by decide +kernel
theorem dX7_drawn_11 : decode cX7_drawn 11 = .ok (.bipush (-3), 2) := by decide +kernel
theorem dX7_drawn_13 : decode cX7_drawn 13 = .ok (.ireturn, 1) := by decide +kernel
theorem dX7_drawn_5 : decode cX7_drawn 5 = .ok (.iload_n 2, 1) := by decide +kernel
theorem dX7_drawn_6 : decode cX7_drawn 6 = .ok (.bipush 30, 2) := by decide +kernel
theorem dX7_drawn_8 : decode cX7_drawn 8 = .ok (.if_icmp .le 6, 3) := by decide +kernel
theorem dX7_drawn_14 : decode cX7_drawn 14 = .ok (.aload_n 0, 1) := by decide +kernel
theorem dX7_drawn_15 : decode cX7_drawn 15 = .ok (.getfield 19, 3) := by decide +kernel
theorem dX7_drawn_18 : decode cX7_drawn 18 = .ok (.getfield 165, 3) := by decide +kernel
theorem dX7_drawn_21 : decode cX7_drawn 21 = .ok (.iload_n 2, 1) := by decide +kernel
theorem dX7_drawn_22 : decode cX7_drawn 22 = .ok (.iadd, 1) := by decide +kernel
theorem dX7_drawn_23 : decode cX7_drawn 23 = .ok (.sipush 999, 3) := by decide +kernel
theorem dX7_drawn_26 : decode cX7_drawn 26 = .ok (.if_icmp .le 6, 3) := by decide +kernel
theorem dX7_drawn_32 : decode cX7_drawn 32 = .ok (.iload_n 1, 1) := by decide +kernel
theorem dX7_drawn_33 : decode cX7_drawn 33 = .ok (.istore_n 3, 1) := by decide +kernel
theorem dX7_drawn_34 : decode cX7_drawn 34 = .ok (.iconst 0, 1) := by decide +kernel
theorem dX7_drawn_35 : decode cX7_drawn 35 = .ok (.istore 4, 2) := by decide +kernel
theorem dX7_drawn_37 : decode cX7_drawn 37 = .ok (.iconst 0, 1) := by decide +kernel
theorem dX7_drawn_38 : decode cX7_drawn 38 = .ok (.istore 5, 2) := by decide +kernel
theorem dX7_drawn_40 : decode cX7_drawn 40 = .ok (.iload 5, 2) := by decide +kernel
theorem dX7_drawn_42 : decode cX7_drawn 42 = .ok (.iload_n 2, 1) := by decide +kernel
theorem dX7_drawn_43 : decode cX7_drawn 43 = .ok (.if_icmp .ge 115, 3) := by decide +kernel
theorem dX7_drawn_158 : decode cX7_drawn 158 = .ok (.iload 4, 2) := by decide +kernel
theorem dX7_drawn_160 : decode cX7_drawn 160 = .ok (.ireturn, 1) := by decide +kernel
theorem dX7_drawn_46 : decode cX7_drawn 46 = .ok (.iconst 0, 1) := by decide +kernel
theorem dX7_drawn_47 : decode cX7_drawn 47 = .ok (.istore 6, 2) := by decide +kernel
theorem dX7_drawn_49 : decode cX7_drawn 49 = .ok (.iconst 0, 1) := by decide +kernel
theorem dX7_drawn_50 : decode cX7_drawn 50 = .ok (.istore 7, 2) := by decide +kernel
theorem dX7_drawn_52 : decode cX7_drawn 52 = .ok (.iload 7, 2) := by decide +kernel
theorem dX7_drawn_54 : decode cX7_drawn 54 = .ok (.aload_n 0, 1) := by decide +kernel
theorem dX7_drawn_55 : decode cX7_drawn 55 = .ok (.getfield 19, 3) := by decide +kernel
theorem dX7_drawn_58 : decode cX7_drawn 58 = .ok (.getfield 203, 3) := by decide +kernel
theorem dX7_drawn_61 : decode cX7_drawn 61 = .ok (.if_icmp .ge 51, 3) := by decide +kernel
theorem dX7_drawn_112 : decode cX7_drawn 112 = .ok (.aload_n 0, 1) := by decide +kernel
theorem dX7_drawn_113 : decode cX7_drawn 113 = .ok (.getfield 19, 3) := by decide +kernel
theorem dX7_drawn_116 : decode cX7_drawn 116 = .ok (.iload 6, 2) := by decide +kernel
theorem dX7_drawn_118 : decode cX7_drawn 118 = .ok (.invokevirtual 168, 3) := by decide +kernel
theorem dX7_drawn_121 : decode cX7_drawn 121 = .ok (.iload_n 3, 1) := by decide +kernel
theorem dX7_drawn_122 : decode cX7_drawn 122 = .ok (.invokestatic 206, 3) := by decide +kernel
theorem hd_yX7_nextDraw : HD yX7_nextDraw RX7 1 := by decide +kernel
theorem mw_623 : Cond.methodLink RX7 206 yX7_nextDraw ∈ wsL_law := List.mem_of_getElem? (i := 623) (by decide +kernel)
theorem mw_624 : Cond.static yX7_nextDraw ∈ wsL_law := List.mem_of_getElem? (i := 624) (by decide +kernel)
theorem mw_625 : Cond.code yX7_nextDraw cX7_nextDraw 1 (some .int) ∈ wsL_law := List.mem_of_getElem? (i := 625) (by decide +kernel)
theorem dX7_drawn_125 : decode cX7_drawn 125 = .ok (.istore_n 3, 1) := by decide +kernel
theorem dX7_drawn_126 : decode cX7_drawn 126 = .ok (.iload 4, 2) := by decide +kernel
theorem dX7_drawn_128 : decode cX7_drawn 128 = .ok (.iload_n 3, 1) := by decide +kernel
theorem dX7_drawn_129 : decode cX7_drawn 129 = .ok (.bipush 16, 2) := by decide +kernel
theorem dX7_drawn_131 : decode cX7_drawn 131 = .ok (.iushr, 1) := by decide +kernel
theorem dX7_drawn_132 : decode cX7_drawn 132 = .ok (.iconst 2, 1) := by decide +kernel
theorem dX7_drawn_133 : decode cX7_drawn 133 = .ok (.irem, 1) := by decide +kernel
theorem dX7_drawn_134 : decode cX7_drawn 134 = .ok (.iconst 1, 1) := by decide +kernel
theorem dX7_drawn_135 : decode cX7_drawn 135 = .ok (.if_icmp .ne 13, 3) := by decide +kernel
theorem dX7_drawn_148 : decode cX7_drawn 148 = .ok (.iconst 0, 1) := by decide +kernel
theorem dX7_drawn_149 : decode cX7_drawn 149 = .ok (.iadd, 1) := by decide +kernel
theorem dX7_drawn_150 : decode cX7_drawn 150 = .ok (.istore 4, 2) := by decide +kernel
theorem dX7_drawn_152 : decode cX7_drawn 152 = .ok (.iinc 5 1, 3) := by decide +kernel
theorem dX7_drawn_155 : decode cX7_drawn 155 = .ok (.goto (-115), 3) := by decide +kernel
theorem dX7_drawn_138 : decode cX7_drawn 138 = .ok (.aload_n 0, 1) := by decide +kernel
theorem dX7_drawn_139 : decode cX7_drawn 139 = .ok (.getfield 19, 3) := by decide +kernel
theorem dX7_drawn_142 : decode cX7_drawn 142 = .ok (.invokevirtual 175, 3) := by decide +kernel
theorem dX7_drawn_145 : decode cX7_drawn 145 = .ok (.goto 4, 3) := by decide +kernel
theorem dX7_leaks_0 : decode cX7_leaks 0 = .ok (.aload_n 0, 1) := by decide +kernel
theorem dX7_leaks_1 : decode cX7_leaks 1 = .ok (.getfield 19, 3) := by decide +kernel
theorem dX7_leaks_4 : decode cX7_leaks 4 = .ok (.invokevirtual 171, 3) := by decide +kernel
theorem dX7_leaks_7 : decode cX7_leaks 7 = .ok (.ireturn, 1) := by decide +kernel
theorem dX7_harm_0 : decode cX7_harm 0 = .ok (.aload_n 0, 1) := by decide +kernel
theorem dX7_harm_1 : decode cX7_harm 1 = .ok (.getfield 19, 3) := by decide +kernel
theorem dX7_harm_4 : decode cX7_harm 4 = .ok (.iload_n 1, 1) := by decide +kernel
theorem dX7_harm_5 : decode cX7_harm 5 = .ok (.invokevirtual 162, 3) := by decide +kernel
theorem dX7_harm_8 : decode cX7_harm 8 = .ok (.ifCond .eq 10, 3) := by decide +kernel
theorem dX7_harm_11 : decode cX7_harm 11 = .ok (.iload_n 2, 1) := by decide +kernel
theorem dX7_harm_12 : decode cX7_harm 12 = .ok (.invokestatic 227, 3) := by decide +kernel
theorem hd_yX7_isHarmSpan : HD yX7_isHarmSpan RX7 1 := by decide +kernel
theorem mw_707 : Cond.methodLink RX7 227 yX7_isHarmSpan ∈ wsL_law := List.mem_of_getElem? (i := 707) (by decide +kernel)
theorem mw_708 : Cond.static yX7_isHarmSpan ∈ wsL_law := List.mem_of_getElem? (i := 708) (by decide +kernel)
theorem mw_709 : Cond.code yX7_isHarmSpan cX7_isHarmSpan 1 (some .boolean) ∈ wsL_law := List.mem_of_getElem? (i := 709) (by decide +kernel)
theorem dX7_harm_15 : decode cX7_harm 15 = .ok (.ifCond .ne 6, 3) := by decide +kernel
theorem dX7_harm_21 : decode cX7_harm 21 = .ok (.aload_n 0, 1) := by decide +kernel
theorem dX7_harm_22 : decode cX7_harm 22 = .ok (.iload_n 1, 1) := by decide +kernel
theorem dX7_harm_23 : decode cX7_harm 23 = .ok (.invokevirtual 230, 3) := by decide +kernel
theorem hd_yX7_harmedBy : HD yX7_harmedBy RX7 1 := by decide +kernel
theorem mw_710 : Cond.methodLink RX7 230 yX7_harmedBy ∈ wsL_law := List.mem_of_getElem? (i := 710) (by decide +kernel)
theorem mw_711 : Cond.instanceMethod yX7_harmedBy ∈ wsL_law := List.mem_of_getElem? (i := 711) (by decide +kernel)
theorem mw_712 : Cond.selects RX7 yX7_harmedBy yX7_harmedBy ∈ wsL_law := List.mem_of_getElem? (i := 712) (by decide +kernel)
theorem mw_713 : Cond.code yX7_harmedBy cX7_harmedBy 2 (some .int) ∈ wsL_law := List.mem_of_getElem? (i := 713) (by decide +kernel)
theorem dX7_harm_26 : decode cX7_harm 26 = .ok (.invokestatic 233, 3) := by decide +kernel
theorem mw_724 : Cond.methodLink RX7 233 yJ6_bitCount_0f7a4 ∈ wsL_law := List.mem_of_getElem? (i := 724) (by decide +kernel)
theorem dX7_harm_29 : decode cX7_harm 29 = .ok (.ireturn, 1) := by decide +kernel
theorem dX7_harm_18 : decode cX7_harm 18 = .ok (.bipush (-3), 2) := by decide +kernel
theorem dX7_harm_20 : decode cX7_harm 20 = .ok (.ireturn, 1) := by decide +kernel
theorem dX7_may_0 : decode cX7_may 0 = .ok (.iload_n 1, 1) := by decide +kernel
theorem dX7_may_1 : decode cX7_may 1 = .ok (.invokestatic 227, 3) := by decide +kernel
theorem dX7_may_4 : decode cX7_may 4 = .ok (.ifCond .eq 17, 3) := by decide +kernel
theorem dX7_may_7 : decode cX7_may 7 = .ok (.aload_n 0, 1) := by decide +kernel
theorem dX7_may_8 : decode cX7_may 8 = .ok (.getfield 19, 3) := by decide +kernel
theorem dX7_may_11 : decode cX7_may 11 = .ok (.aload_n 0, 1) := by decide +kernel
theorem dX7_may_12 : decode cX7_may 12 = .ok (.getfield 23, 3) := by decide +kernel
theorem dX7_may_15 : decode cX7_may 15 = .ok (.invokevirtual 238, 3) := by decide +kernel
theorem dX7_may_18 : decode cX7_may 18 = .ok (.goto 5, 3) := by decide +kernel
theorem dX7_may_23 : decode cX7_may 23 = .ok (.ireturn, 1) := by decide +kernel
theorem dX7_may_21 : decode cX7_may 21 = .ok (.bipush (-3), 2) := by decide +kernel
theorem dX7_laziest_0 : decode cX7_laziest 0 = .ok (.iload_n 1, 1) := by decide +kernel
theorem dX7_laziest_1 : decode cX7_laziest 1 = .ok (.invokestatic 227, 3) := by decide +kernel
theorem dX7_laziest_4 : decode cX7_laziest 4 = .ok (.ifCond .eq 17, 3) := by decide +kernel
theorem dX7_laziest_7 : decode cX7_laziest 7 = .ok (.aload_n 0, 1) := by decide +kernel
theorem dX7_laziest_8 : decode cX7_laziest 8 = .ok (.getfield 19, 3) := by decide +kernel
theorem dX7_laziest_11 : decode cX7_laziest 11 = .ok (.aload_n 0, 1) := by decide +kernel
theorem dX7_laziest_12 : decode cX7_laziest 12 = .ok (.getfield 23, 3) := by decide +kernel
theorem dX7_laziest_15 : decode cX7_laziest 15 = .ok (.invokevirtual 238, 3) := by decide +kernel
theorem dX7_laziest_18 : decode cX7_laziest 18 = .ok (.goto 5, 3) := by decide +kernel
theorem dX7_laziest_23 : decode cX7_laziest 23 = .ok (.ireturn, 1) := by decide +kernel
theorem dX7_laziest_21 : decode cX7_laziest 21 = .ok (.bipush (-3), 2) := by decide +kernel
theorem dX7_dry_0 : decode cX7_dry 0 = .ok (.iload_n 2, 1) := by decide +kernel
theorem dX7_dry_1 : decode cX7_dry 1 = .ok (.ifCond .eq 18, 3) := by decide +kernel
theorem dX7_dry_19 : decode cX7_dry 19 = .ok (.iload_n 1, 1) := by decide +kernel
theorem dX7_dry_20 : decode cX7_dry 20 = .ok (.iconst 1, 1) := by decide +kernel
theorem dX7_dry_21 : decode cX7_dry 21 = .ok (.if_icmp .lt 8, 3) := by decide +kernel
theorem dX7_dry_29 : decode cX7_dry 29 = .ok (.bipush (-3), 2) := by decide +kernel
theorem dX7_dry_31 : decode cX7_dry 31 = .ok (.ireturn, 1) := by decide +kernel
theorem dX7_dry_24 : decode cX7_dry 24 = .ok (.iload_n 1, 1) := by decide +kernel
theorem dX7_dry_25 : decode cX7_dry 25 = .ok (.iconst 4, 1) := by decide +kernel
theorem dX7_dry_26 : decode cX7_dry 26 = .ok (.if_icmp .le 6, 3) := by decide +kernel
theorem dX7_dry_32 : decode cX7_dry 32 = .ok (.aload_n 0, 1) := by decide +kernel
theorem dX7_dry_33 : decode cX7_dry 33 = .ok (.getfield 19, 3) := by decide +kernel
theorem dX7_dry_36 : decode cX7_dry 36 = .ok (.getfield 203, 3) := by decide +kernel
theorem dX7_dry_39 : decode cX7_dry 39 = .ok (.iconst 4, 1) := by decide +kernel
theorem dX7_dry_40 : decode cX7_dry 40 = .ok (.if_icmp .le 6, 3) := by decide +kernel
theorem dX7_dry_46 : decode cX7_dry 46 = .ok (.aload_n 0, 1) := by decide +kernel
theorem dX7_dry_47 : decode cX7_dry 47 = .ok (.getfield 54, 3) := by decide +kernel
theorem mw_34 : Cond.fieldLink RX7 54 "ThatchNext" "drySearch" "LThatchNext$DrySearch;" ∈ wsL_law := List.mem_of_getElem? (i := 34) (by decide +kernel)
theorem dX7_dry_50 : decode cX7_dry 50 = .ok (.aload_n 0, 1) := by decide +kernel
theorem dX7_dry_51 : decode cX7_dry 51 = .ok (.getfield 19, 3) := by decide +kernel
theorem dX7_dry_54 : decode cX7_dry 54 = .ok (.iload_n 1, 1) := by decide +kernel
theorem dX7_dry_55 : decode cX7_dry 55 = .ok (.invokevirtual 242, 3) := by decide +kernel
theorem hd_yX0_find : HD yX0_find RX0 2 := by decide +kernel
theorem mw_777 : Cond.methodLink RX7 242 yX0_find ∈ wsL_law := List.mem_of_getElem? (i := 777) (by decide +kernel)
theorem mw_778 : Cond.instanceMethod yX0_find ∈ wsL_law := List.mem_of_getElem? (i := 778) (by decide +kernel)
theorem mw_779 : Cond.selects RX0 yX0_find yX0_find ∈ wsL_law := List.mem_of_getElem? (i := 779) (by decide +kernel)
theorem mw_780 : Cond.code yX0_find cX0_find 3 none ∈ wsL_law := List.mem_of_getElem? (i := 780) (by decide +kernel)
theorem dX7_dry_58 : decode cX7_dry 58 = .ok (.iload_n 2, 1) := by decide +kernel
theorem dX7_dry_59 : decode cX7_dry 59 = .ok (.ifCond .ne 11, 3) := by decide +kernel
theorem dX7_dry_62 : decode cX7_dry 62 = .ok (.aload_n 0, 1) := by decide +kernel
theorem dX7_dry_63 : decode cX7_dry 63 = .ok (.getfield 54, 3) := by decide +kernel
theorem dX7_dry_66 : decode cX7_dry 66 = .ok (.getfield 246, 3) := by decide +kernel
theorem mw_775 : Cond.fieldLink RX7 246 "ThatchNext$DrySearch" "fewest" "I" ∈ wsL_law := List.mem_of_getElem? (i := 775) (by decide +kernel)
theorem dX7_dry_69 : decode cX7_dry 69 = .ok (.ireturn, 1) := by decide +kernel
theorem dX7_dry_4 : decode cX7_dry 4 = .ok (.iload_n 2, 1) := by decide +kernel
theorem dX7_dry_5 : decode cX7_dry 5 = .ok (.bipush 10, 2) := by decide +kernel
theorem dX7_dry_7 : decode cX7_dry 7 = .ok (.if_icmp .lt 9, 3) := by decide +kernel
theorem dX7_dry_16 : decode cX7_dry 16 = .ok (.bipush (-2), 2) := by decide +kernel
theorem dX7_dry_18 : decode cX7_dry 18 = .ok (.ireturn, 1) := by decide +kernel
theorem dX7_dry_10 : decode cX7_dry 10 = .ok (.iload_n 2, 1) := by decide +kernel
theorem dX7_dry_11 : decode cX7_dry 11 = .ok (.bipush 14, 2) := by decide +kernel
theorem dX7_dry_13 : decode cX7_dry 13 = .ok (.if_icmp .lt 6, 3) := by decide +kernel
theorem dX7_dry_70 : decode cX7_dry 70 = .ok (.iload_n 2, 1) := by decide +kernel
theorem dX7_dry_71 : decode cX7_dry 71 = .ok (.bipush 10, 2) := by decide +kernel
theorem dX7_dry_73 : decode cX7_dry 73 = .ok (.isub, 1) := by decide +kernel
theorem dX7_dry_74 : decode cX7_dry 74 = .ok (.istore_n 3, 1) := by decide +kernel
theorem dX7_dry_75 : decode cX7_dry 75 = .ok (.iload_n 3, 1) := by decide +kernel
theorem dX7_dry_76 : decode cX7_dry 76 = .ok (.iload_n 1, 1) := by decide +kernel
theorem dX7_dry_77 : decode cX7_dry 77 = .ok (.if_icmp .ge 15, 3) := by decide +kernel
theorem dX7_dry_92 : decode cX7_dry 92 = .ok (.iconst (-1), 1) := by decide +kernel
theorem dX7_dry_93 : decode cX7_dry 93 = .ok (.ireturn, 1) := by decide +kernel
theorem dX7_dry_80 : decode cX7_dry 80 = .ok (.aload_n 0, 1) := by decide +kernel
theorem dX7_dry_81 : decode cX7_dry 81 = .ok (.getfield 54, 3) := by decide +kernel
theorem dX7_dry_84 : decode cX7_dry 84 = .ok (.getfield 249, 3) := by decide +kernel
theorem mw_776 : Cond.fieldLink RX7 249 "ThatchNext$DrySearch" "best" "[I" ∈ wsL_law := List.mem_of_getElem? (i := 776) (by decide +kernel)
theorem dX7_dry_87 : decode cX7_dry 87 = .ok (.iload_n 3, 1) := by decide +kernel
theorem dX7_dry_88 : decode cX7_dry 88 = .ok (.iaload, 1) := by decide +kernel
theorem dX7_dry_89 : decode cX7_dry 89 = .ok (.goto 4, 3) := by decide +kernel
theorem dX7_miceIn_0 : decode cX7_miceIn 0 = .ok (.iload_n 1, 1) := by decide +kernel
theorem dX7_miceIn_1 : decode cX7_miceIn 1 = .ok (.ifCond .lt 9, 3) := by decide +kernel
theorem dX7_miceIn_10 : decode cX7_miceIn 10 = .ok (.bipush (-3), 2) := by decide +kernel
theorem dX7_miceIn_12 : decode cX7_miceIn 12 = .ok (.ireturn, 1) := by decide +kernel
theorem dX7_miceIn_4 : decode cX7_miceIn 4 = .ok (.iload_n 1, 1) := by decide +kernel
theorem dX7_miceIn_5 : decode cX7_miceIn 5 = .ok (.bipush 30, 2) := by decide +kernel
theorem dX7_miceIn_7 : decode cX7_miceIn 7 = .ok (.if_icmp .le 6, 3) := by decide +kernel
theorem dX7_miceIn_13 : decode cX7_miceIn 13 = .ok (.aload_n 0, 1) := by decide +kernel
theorem dX7_miceIn_14 : decode cX7_miceIn 14 = .ok (.getfield 23, 3) := by decide +kernel
theorem dX7_miceIn_17 : decode cX7_miceIn 17 = .ok (.aload_n 0, 1) := by decide +kernel
theorem dX7_miceIn_18 : decode cX7_miceIn 18 = .ok (.getfield 19, 3) := by decide +kernel
theorem dX7_miceIn_21 : decode cX7_miceIn 21 = .ok (.invokevirtual 90, 3) := by decide +kernel
theorem dX7_miceIn_24 : decode cX7_miceIn 24 = .ok (.iconst 0, 1) := by decide +kernel
theorem dX7_miceIn_25 : decode cX7_miceIn 25 = .ok (.istore_n 2, 1) := by decide +kernel
theorem dX7_miceIn_26 : decode cX7_miceIn 26 = .ok (.iload_n 2, 1) := by decide +kernel
theorem dX7_miceIn_27 : decode cX7_miceIn 27 = .ok (.iload_n 1, 1) := by decide +kernel
theorem dX7_miceIn_28 : decode cX7_miceIn 28 = .ok (.if_icmp .ge 17, 3) := by decide +kernel
theorem dX7_miceIn_45 : decode cX7_miceIn 45 = .ok (.aload_n 0, 1) := by decide +kernel
theorem dX7_miceIn_46 : decode cX7_miceIn 46 = .ok (.getfield 23, 3) := by decide +kernel
theorem dX7_miceIn_49 : decode cX7_miceIn 49 = .ok (.invokevirtual 262, 3) := by decide +kernel
theorem hd_yX6_miceInAll : HD yX6_miceInAll RX6 0 := by decide +kernel
theorem mw_834 : Cond.methodLink RX7 262 yX6_miceInAll ∈ wsL_law := List.mem_of_getElem? (i := 834) (by decide +kernel)
theorem mw_835 : Cond.instanceMethod yX6_miceInAll ∈ wsL_law := List.mem_of_getElem? (i := 835) (by decide +kernel)
theorem mw_836 : Cond.selects RX6 yX6_miceInAll yX6_miceInAll ∈ wsL_law := List.mem_of_getElem? (i := 836) (by decide +kernel)
theorem mw_837 : Cond.code yX6_miceInAll cX6_miceInAll 3 (some .int) ∈ wsL_law := List.mem_of_getElem? (i := 837) (by decide +kernel)
theorem dX7_miceIn_52 : decode cX7_miceIn 52 = .ok (.ireturn, 1) := by decide +kernel
theorem dX7_miceIn_31 : decode cX7_miceIn 31 = .ok (.aload_n 0, 1) := by decide +kernel
theorem dX7_miceIn_32 : decode cX7_miceIn 32 = .ok (.getfield 23, 3) := by decide +kernel
theorem dX7_miceIn_35 : decode cX7_miceIn 35 = .ok (.iconst 0, 1) := by decide +kernel
theorem dX7_miceIn_36 : decode cX7_miceIn 36 = .ok (.invokevirtual 168, 3) := by decide +kernel
theorem dX7_miceIn_39 : decode cX7_miceIn 39 = .ok (.iinc 2 1, 3) := by decide +kernel
theorem dX7_miceIn_42 : decode cX7_miceIn 42 = .ok (.goto (-16), 3) := by decide +kernel
theorem dX7_cats_0 : decode cX7_cats 0 = .ok (.iload_n 1, 1) := by decide +kernel
theorem dX7_cats_1 : decode cX7_cats 1 = .ok (.iconst 1, 1) := by decide +kernel
theorem dX7_cats_2 : decode cX7_cats 2 = .ok (.if_icmp .lt 9, 3) := by decide +kernel
theorem dX7_cats_11 : decode cX7_cats 11 = .ok (.bipush (-3), 2) := by decide +kernel
theorem dX7_cats_13 : decode cX7_cats 13 = .ok (.ireturn, 1) := by decide +kernel
theorem dX7_cats_5 : decode cX7_cats 5 = .ok (.iload_n 1, 1) := by decide +kernel
theorem dX7_cats_6 : decode cX7_cats 6 = .ok (.bipush 8, 2) := by decide +kernel
theorem dX7_cats_8 : decode cX7_cats 8 = .ok (.if_icmp .le 6, 3) := by decide +kernel
theorem dX7_cats_14 : decode cX7_cats 14 = .ok (.aload_n 0, 1) := by decide +kernel
theorem dX7_cats_15 : decode cX7_cats 15 = .ok (.iload_n 1, 1) := by decide +kernel
theorem dX7_cats_16 : decode cX7_cats 16 = .ok (.invokevirtual 265, 3) := by decide +kernel
theorem hd_yX7_findMousePaths : HD yX7_findMousePaths RX7 1 := by decide +kernel
theorem mw_855 : Cond.methodLink RX7 265 yX7_findMousePaths ∈ wsL_law := List.mem_of_getElem? (i := 855) (by decide +kernel)
theorem mw_856 : Cond.instanceMethod yX7_findMousePaths ∈ wsL_law := List.mem_of_getElem? (i := 856) (by decide +kernel)
theorem mw_857 : Cond.selects RX7 yX7_findMousePaths yX7_findMousePaths ∈ wsL_law := List.mem_of_getElem? (i := 857) (by decide +kernel)
theorem mw_858 : Cond.code yX7_findMousePaths cX7_findMousePaths 6 (some .int) ∈ wsL_law := List.mem_of_getElem? (i := 858) (by decide +kernel)
theorem dX7_cats_19 : decode cX7_cats 19 = .ok (.istore_n 2, 1) := by decide +kernel
theorem dX7_cats_20 : decode cX7_cats 20 = .ok (.iconst (-1), 1) := by decide +kernel
theorem dX7_cats_21 : decode cX7_cats 21 = .ok (.istore_n 3, 1) := by decide +kernel
theorem dX7_cats_22 : decode cX7_cats 22 = .ok (.iconst 0, 1) := by decide +kernel
theorem dX7_cats_23 : decode cX7_cats 23 = .ok (.istore 4, 2) := by decide +kernel
theorem dX7_cats_25 : decode cX7_cats 25 = .ok (.iload 4, 2) := by decide +kernel
theorem dX7_cats_27 : decode cX7_cats 27 = .ok (.aload_n 0, 1) := by decide +kernel
theorem dX7_cats_28 : decode cX7_cats 28 = .ok (.getfield 19, 3) := by decide +kernel
theorem dX7_cats_31 : decode cX7_cats 31 = .ok (.invokevirtual 268, 3) := by decide +kernel
theorem mw_871 : Cond.methodLink RX7 268 yX6_allRoofs ∈ wsL_law := List.mem_of_getElem? (i := 871) (by decide +kernel)
theorem dX7_cats_34 : decode cX7_cats 34 = .ok (.if_icmp .gt 64, 3) := by decide +kernel
theorem dX7_cats_37 : decode cX7_cats 37 = .ok (.iload_n 3, 1) := by decide +kernel
theorem dX7_cats_38 : decode cX7_cats 38 = .ok (.iconst (-1), 1) := by decide +kernel
theorem dX7_cats_39 : decode cX7_cats 39 = .ok (.if_icmp .eq 15, 3) := by decide +kernel
theorem dX7_cats_54 : decode cX7_cats 54 = .ok (.iconst 1, 1) := by decide +kernel
theorem dX7_cats_55 : decode cX7_cats 55 = .ok (.goto 4, 3) := by decide +kernel
theorem dX7_cats_59 : decode cX7_cats 59 = .ok (.istore 5, 2) := by decide +kernel
theorem dX7_cats_61 : decode cX7_cats 61 = .ok (.iload 5, 2) := by decide +kernel
theorem dX7_cats_63 : decode cX7_cats 63 = .ok (.ifCond .eq 29, 3) := by decide +kernel
theorem dX7_cats_66 : decode cX7_cats 66 = .ok (.iload 4, 2) := by decide +kernel
theorem dX7_cats_68 : decode cX7_cats 68 = .ok (.aload_n 0, 1) := by decide +kernel
theorem dX7_cats_69 : decode cX7_cats 69 = .ok (.getfield 19, 3) := by decide +kernel
theorem dX7_cats_72 : decode cX7_cats 72 = .ok (.getfield 110, 3) := by decide +kernel
theorem mw_361 : Cond.fieldLink RX7 110 "ThatchNext$World" "slates" "I" ∈ wsL_law := List.mem_of_getElem? (i := 361) (by decide +kernel)
theorem dX7_cats_75 : decode cX7_cats 75 = .ok (.iand, 1) := by decide +kernel
theorem dX7_cats_76 : decode cX7_cats 76 = .ok (.ifCond .ne 16, 3) := by decide +kernel
theorem dX7_cats_79 : decode cX7_cats 79 = .ok (.aload_n 0, 1) := by decide +kernel
theorem dX7_cats_80 : decode cX7_cats 80 = .ok (.iload 4, 2) := by decide +kernel
theorem dX7_cats_82 : decode cX7_cats 82 = .ok (.iload_n 2, 1) := by decide +kernel
theorem dX7_cats_83 : decode cX7_cats 83 = .ok (.invokevirtual 271, 3) := by decide +kernel
theorem hd_yX7_meetsAllPaths : HD yX7_meetsAllPaths RX7 2 := by decide +kernel
theorem mw_872 : Cond.methodLink RX7 271 yX7_meetsAllPaths ∈ wsL_law := List.mem_of_getElem? (i := 872) (by decide +kernel)
theorem mw_873 : Cond.instanceMethod yX7_meetsAllPaths ∈ wsL_law := List.mem_of_getElem? (i := 873) (by decide +kernel)
theorem mw_874 : Cond.selects RX7 yX7_meetsAllPaths yX7_meetsAllPaths ∈ wsL_law := List.mem_of_getElem? (i := 874) (by decide +kernel)
theorem mw_875 : Cond.code yX7_meetsAllPaths cX7_meetsAllPaths 4 (some .boolean) ∈ wsL_law := List.mem_of_getElem? (i := 875) (by decide +kernel)
theorem dX7_cats_86 : decode cX7_cats 86 = .ok (.ifCond .eq 6, 3) := by decide +kernel
theorem dX7_cats_89 : decode cX7_cats 89 = .ok (.iload 4, 2) := by decide +kernel
theorem dX7_cats_91 : decode cX7_cats 91 = .ok (.istore_n 3, 1) := by decide +kernel
theorem dX7_cats_92 : decode cX7_cats 92 = .ok (.iinc 4 1, 3) := by decide +kernel
theorem dX7_cats_95 : decode cX7_cats 95 = .ok (.goto (-70), 3) := by decide +kernel
theorem dX7_cats_98 : decode cX7_cats 98 = .ok (.iload_n 3, 1) := by decide +kernel
theorem dX7_cats_99 : decode cX7_cats 99 = .ok (.ireturn, 1) := by decide +kernel
theorem dX7_sparkIn_0 : decode cX7_sparkIn 0 = .ok (.aload_n 0, 1) := by decide +kernel
theorem dX7_sparkIn_1 : decode cX7_sparkIn 1 = .ok (.getfield 19, 3) := by decide +kernel
theorem dX7_sparkIn_4 : decode cX7_sparkIn 4 = .ok (.iload_n 1, 1) := by decide +kernel
theorem dX7_sparkIn_5 : decode cX7_sparkIn 5 = .ok (.invokevirtual 281, 3) := by decide +kernel
theorem hd_yX6_placeOfSpark : HD yX6_placeOfSpark RX6 1 := by decide +kernel
theorem mw_899 : Cond.methodLink RX7 281 yX6_placeOfSpark ∈ wsL_law := List.mem_of_getElem? (i := 899) (by decide +kernel)
theorem mw_900 : Cond.instanceMethod yX6_placeOfSpark ∈ wsL_law := List.mem_of_getElem? (i := 900) (by decide +kernel)
theorem mw_901 : Cond.selects RX6 yX6_placeOfSpark yX6_placeOfSpark ∈ wsL_law := List.mem_of_getElem? (i := 901) (by decide +kernel)
theorem mw_902 : Cond.code yX6_placeOfSpark cX6_placeOfSpark 5 (some .int) ∈ wsL_law := List.mem_of_getElem? (i := 902) (by decide +kernel)
theorem dX7_sparkIn_8 : decode cX7_sparkIn 8 = .ok (.istore_n 3, 1) := by decide +kernel
theorem dX7_sparkIn_9 : decode cX7_sparkIn 9 = .ok (.iload_n 3, 1) := by decide +kernel
theorem dX7_sparkIn_10 : decode cX7_sparkIn 10 = .ok (.iconst (-1), 1) := by decide +kernel
theorem dX7_sparkIn_11 : decode cX7_sparkIn 11 = .ok (.if_icmp .ne 6, 3) := by decide +kernel
theorem dX7_sparkIn_14 : decode cX7_sparkIn 14 = .ok (.bipush (-2), 2) := by decide +kernel
theorem dX7_sparkIn_16 : decode cX7_sparkIn 16 = .ok (.ireturn, 1) := by decide +kernel
theorem dX7_odds_0 : decode cX7_odds 0 = .ok (.aload_n 0, 1) := by decide +kernel
theorem dX7_odds_1 : decode cX7_odds 1 = .ok (.getfield 19, 3) := by decide +kernel
theorem dX7_odds_4 : decode cX7_odds 4 = .ok (.iload_n 1, 1) := by decide +kernel
theorem dX7_odds_5 : decode cX7_odds 5 = .ok (.invokevirtual 103, 3) := by decide +kernel
theorem dX7_odds_8 : decode cX7_odds 8 = .ok (.ifCond .ne 7, 3) := by decide +kernel
theorem dX7_odds_11 : decode cX7_odds 11 = .ok (.ldc2_w 287, 3) := by decide +kernel
theorem mw_920 : Cond.constantLong RX7 287 (-2) ∈ wsL_law := List.mem_of_getElem? (i := 920) (by decide +kernel)
theorem dX7_odds_14 : decode cX7_odds 14 = .ok (.lreturn, 1) := by decide +kernel
theorem dX7_outOf_0 : decode cX7_outOf 0 = .ok (.aload_n 0, 1) := by decide +kernel
theorem dX7_outOf_1 : decode cX7_outOf 1 = .ok (.iload_n 1, 1) := by decide +kernel
theorem dX7_outOf_2 : decode cX7_outOf 2 = .ok (.invokevirtual 289, 3) := by decide +kernel
theorem hd_yX7_oddsRefusal : HD yX7_oddsRefusal RX7 1 := by decide +kernel
theorem mw_921 : Cond.methodLink RX7 289 yX7_oddsRefusal ∈ wsL_law := List.mem_of_getElem? (i := 921) (by decide +kernel)
theorem mw_922 : Cond.instanceMethod yX7_oddsRefusal ∈ wsL_law := List.mem_of_getElem? (i := 922) (by decide +kernel)
theorem mw_923 : Cond.selects RX7 yX7_oddsRefusal yX7_oddsRefusal ∈ wsL_law := List.mem_of_getElem? (i := 923) (by decide +kernel)
theorem mw_924 : Cond.code yX7_oddsRefusal cX7_oddsRefusal 2 (some .int) ∈ wsL_law := List.mem_of_getElem? (i := 924) (by decide +kernel)
theorem dX7_outOf_5 : decode cX7_outOf 5 = .ok (.istore_n 2, 1) := by decide +kernel
theorem dX7_outOf_6 : decode cX7_outOf 6 = .ok (.iload_n 2, 1) := by decide +kernel
theorem dX7_outOf_7 : decode cX7_outOf 7 = .ok (.ifCond .eq 8, 3) := by decide +kernel
theorem dX7_outOf_15 : decode cX7_outOf 15 = .ok (.aload_n 0, 1) := by decide +kernel
theorem dX7_outOf_16 : decode cX7_outOf 16 = .ok (.getfield 19, 3) := by decide +kernel
theorem dX7_outOf_19 : decode cX7_outOf 19 = .ok (.getfield 296, 3) := by decide +kernel
theorem mw_929 : Cond.fieldLink RX7 296 "ThatchNext$World" "odds" "I" ∈ wsL_law := List.mem_of_getElem? (i := 929) (by decide +kernel)
theorem dX7_outOf_22 : decode cX7_outOf 22 = .ok (.iload_n 1, 1) := by decide +kernel
theorem dX7_outOf_23 : decode cX7_outOf 23 = .ok (.aload_n 0, 1) := by decide +kernel
theorem dX7_outOf_24 : decode cX7_outOf 24 = .ok (.getfield 19, 3) := by decide +kernel
theorem dX7_outOf_27 : decode cX7_outOf 27 = .ok (.invokevirtual 278, 3) := by decide +kernel
theorem dX7_outOf_30 : decode cX7_outOf 30 = .ok (.imul, 1) := by decide +kernel
theorem dX7_outOf_31 : decode cX7_outOf 31 = .ok (.invokestatic 299, 3) := by decide +kernel
theorem hd_yX7_power : HD yX7_power RX7 2 := by decide +kernel
theorem mw_930 : Cond.methodLink RX7 299 yX7_power ∈ wsL_law := List.mem_of_getElem? (i := 930) (by decide +kernel)
theorem mw_931 : Cond.static yX7_power ∈ wsL_law := List.mem_of_getElem? (i := 931) (by decide +kernel)
theorem mw_932 : Cond.code yX7_power cX7_power 5 (some .long) ∈ wsL_law := List.mem_of_getElem? (i := 932) (by decide +kernel)
theorem dX7_outOf_34 : decode cX7_outOf 34 = .ok (.lreturn, 1) := by decide +kernel
theorem dX7_outOf_10 : decode cX7_outOf 10 = .ok (.iload_n 2, 1) := by decide +kernel
theorem dX7_outOf_11 : decode cX7_outOf 11 = .ok (.i2l, 1) := by decide +kernel
theorem dX7_outOf_12 : decode cX7_outOf 12 = .ok (.goto 22, 3) := by decide +kernel
theorem dX7_open_0 : decode cX7_open 0 = .ok (.aload_n 0, 1) := by decide +kernel
theorem dX7_open_1 : decode cX7_open 1 = .ok (.iload_n 1, 1) := by decide +kernel
theorem dX7_open_2 : decode cX7_open 2 = .ok (.invokevirtual 289, 3) := by decide +kernel
theorem dX7_open_5 : decode cX7_open 5 = .ok (.istore_n 2, 1) := by decide +kernel
theorem dX7_open_6 : decode cX7_open 6 = .ok (.iload_n 2, 1) := by decide +kernel
theorem dX7_open_7 : decode cX7_open 7 = .ok (.ifCond .eq 5, 3) := by decide +kernel
theorem dX7_open_12 : decode cX7_open 12 = .ok (.iconst (-1), 1) := by decide +kernel
theorem dX7_open_13 : decode cX7_open 13 = .ok (.istore_n 3, 1) := by decide +kernel
theorem dX7_open_14 : decode cX7_open 14 = .ok (.lconst 0, 1) := by decide +kernel
theorem dX7_open_15 : decode cX7_open 15 = .ok (.lstore 4, 2) := by decide +kernel
theorem dX7_open_17 : decode cX7_open 17 = .ok (.iconst 0, 1) := by decide +kernel
theorem dX7_open_18 : decode cX7_open 18 = .ok (.istore 6, 2) := by decide +kernel
theorem dX7_open_20 : decode cX7_open 20 = .ok (.iload 6, 2) := by decide +kernel
theorem dX7_open_22 : decode cX7_open 22 = .ok (.aload_n 0, 1) := by decide +kernel
theorem dX7_open_23 : decode cX7_open 23 = .ok (.getfield 19, 3) := by decide +kernel
theorem dX7_open_26 : decode cX7_open 26 = .ok (.getfield 203, 3) := by decide +kernel
theorem dX7_open_29 : decode cX7_open 29 = .ok (.if_icmp .ge 33, 3) := by decide +kernel
theorem dX7_open_62 : decode cX7_open 62 = .ok (.iload_n 3, 1) := by decide +kernel
theorem dX7_open_63 : decode cX7_open 63 = .ok (.ireturn, 1) := by decide +kernel
theorem dX7_open_10 : decode cX7_open 10 = .ok (.iload_n 2, 1) := by decide +kernel
theorem dX7_open_11 : decode cX7_open 11 = .ok (.ireturn, 1) := by decide +kernel
theorem dX7_order_0 : decode cX7_order 0 = .ok (.iload_n 1, 1) := by decide +kernel
theorem dX7_order_1 : decode cX7_order 1 = .ok (.invokestatic 178, 3) := by decide +kernel
theorem dX7_order_4 : decode cX7_order 4 = .ok (.ifCond .eq 19, 3) := by decide +kernel
theorem dX7_order_7 : decode cX7_order 7 = .ok (.iload_n 2, 1) := by decide +kernel
theorem dX7_order_8 : decode cX7_order 8 = .ok (.ifCond .eq 18, 3) := by decide +kernel
theorem dX7_order_26 : decode cX7_order 26 = .ok (.aload_n 0, 1) := by decide +kernel
theorem dX7_order_27 : decode cX7_order 27 = .ok (.getfield 40, 3) := by decide +kernel
theorem dX7_order_30 : decode cX7_order 30 = .ok (.iload_n 1, 1) := by decide +kernel
theorem dX7_order_31 : decode cX7_order 31 = .ok (.aaload, 1) := by decide +kernel
theorem dX7_order_32 : decode cX7_order 32 = .ok (.astore_n 3, 1) := by decide +kernel
theorem dX7_order_33 : decode cX7_order 33 = .ok (.aload_n 3, 1) := by decide +kernel
theorem dX7_order_34 : decode cX7_order 34 = .ok (.getfield 181, 3) := by decide +kernel
theorem dX7_order_37 : decode cX7_order 37 = .ok (.ifCond .ne 6, 3) := by decide +kernel
theorem dX7_order_40 : decode cX7_order 40 = .ok (.bipush (-6), 2) := by decide +kernel
theorem dX7_order_42 : decode cX7_order 42 = .ok (.ireturn, 1) := by decide +kernel
theorem dX7_order_11 : decode cX7_order 11 = .ok (.iload_n 2, 1) := by decide +kernel
theorem dX7_order_12 : decode cX7_order 12 = .ok (.bipush 10, 2) := by decide +kernel
theorem dX7_order_14 : decode cX7_order 14 = .ok (.if_icmp .lt 9, 3) := by decide +kernel
theorem dX7_order_23 : decode cX7_order 23 = .ok (.bipush (-2), 2) := by decide +kernel
theorem dX7_order_25 : decode cX7_order 25 = .ok (.ireturn, 1) := by decide +kernel
theorem dX7_order_17 : decode cX7_order 17 = .ok (.iload_n 2, 1) := by decide +kernel
theorem dX7_order_18 : decode cX7_order 18 = .ok (.bipush 20, 2) := by decide +kernel
theorem dX7_order_20 : decode cX7_order 20 = .ok (.if_icmp .lt 6, 3) := by decide +kernel
theorem dX7_wetted_0 : decode cX7_wetted 0 = .ok (.iload_n 1, 1) := by decide +kernel
theorem dX7_wetted_1 : decode cX7_wetted 1 = .ok (.invokestatic 178, 3) := by decide +kernel
theorem dX7_wetted_4 : decode cX7_wetted 4 = .ok (.ifCond .eq 10, 3) := by decide +kernel
theorem dX7_wetted_7 : decode cX7_wetted 7 = .ok (.iload_n 2, 1) := by decide +kernel
theorem dX7_wetted_8 : decode cX7_wetted 8 = .ok (.invokestatic 178, 3) := by decide +kernel
theorem dX7_wetted_11 : decode cX7_wetted 11 = .ok (.ifCond .ne 6, 3) := by decide +kernel
theorem dX7_wetted_17 : decode cX7_wetted 17 = .ok (.aload_n 0, 1) := by decide +kernel
theorem dX7_wetted_18 : decode cX7_wetted 18 = .ok (.getfield 40, 3) := by decide +kernel
theorem dX7_wetted_21 : decode cX7_wetted 21 = .ok (.iload_n 1, 1) := by decide +kernel
theorem dX7_wetted_22 : decode cX7_wetted 22 = .ok (.aaload, 1) := by decide +kernel
theorem dX7_wetted_23 : decode cX7_wetted 23 = .ok (.astore_n 3, 1) := by decide +kernel
theorem dX7_wetted_24 : decode cX7_wetted 24 = .ok (.aload_n 3, 1) := by decide +kernel
theorem dX7_wetted_25 : decode cX7_wetted 25 = .ok (.getfield 181, 3) := by decide +kernel
theorem dX7_wetted_28 : decode cX7_wetted 28 = .ok (.ifCond .eq 15, 3) := by decide +kernel
theorem dX7_wetted_43 : decode cX7_wetted 43 = .ok (.bipush (-6), 2) := by decide +kernel
theorem dX7_wetted_45 : decode cX7_wetted 45 = .ok (.ireturn, 1) := by decide +kernel
theorem dX7_wetted_14 : decode cX7_wetted 14 = .ok (.bipush (-2), 2) := by decide +kernel
theorem dX7_wetted_16 : decode cX7_wetted 16 = .ok (.ireturn, 1) := by decide +kernel
theorem dX7_past_0 : decode cX7_past 0 = .ok (.iload_n 1, 1) := by decide +kernel
theorem dX7_past_1 : decode cX7_past 1 = .ok (.iconst 1, 1) := by decide +kernel
theorem dX7_past_2 : decode cX7_past 2 = .ok (.if_icmp .lt 8, 3) := by decide +kernel
theorem dX7_past_10 : decode cX7_past 10 = .ok (.bipush (-3), 2) := by decide +kernel
theorem dX7_past_12 : decode cX7_past 12 = .ok (.ireturn, 1) := by decide +kernel
theorem dX7_past_5 : decode cX7_past 5 = .ok (.iload_n 1, 1) := by decide +kernel
theorem dX7_past_6 : decode cX7_past 6 = .ok (.iconst 3, 1) := by decide +kernel
theorem dX7_past_7 : decode cX7_past 7 = .ok (.if_icmp .le 6, 3) := by decide +kernel
theorem dX7_past_13 : decode cX7_past 13 = .ok (.aload_n 0, 1) := by decide +kernel
theorem dX7_past_14 : decode cX7_past 14 = .ok (.invokevirtual 322, 3) := by decide +kernel
theorem hd_yX7_pastRefusal : HD yX7_pastRefusal RX7 0 := by decide +kernel
theorem mw_1043 : Cond.methodLink RX7 322 yX7_pastRefusal ∈ wsL_law := List.mem_of_getElem? (i := 1043) (by decide +kernel)
theorem mw_1044 : Cond.instanceMethod yX7_pastRefusal ∈ wsL_law := List.mem_of_getElem? (i := 1044) (by decide +kernel)
theorem mw_1045 : Cond.selects RX7 yX7_pastRefusal yX7_pastRefusal ∈ wsL_law := List.mem_of_getElem? (i := 1045) (by decide +kernel)
theorem mw_1046 : Cond.code yX7_pastRefusal cX7_pastRefusal 1 (some .int) ∈ wsL_law := List.mem_of_getElem? (i := 1046) (by decide +kernel)
theorem dX7_past_17 : decode cX7_past 17 = .ok (.istore_n 2, 1) := by decide +kernel
theorem dX7_past_18 : decode cX7_past 18 = .ok (.iload_n 2, 1) := by decide +kernel
theorem dX7_past_19 : decode cX7_past 19 = .ok (.ifCond .eq 5, 3) := by decide +kernel
theorem dX7_past_22 : decode cX7_past 22 = .ok (.iload_n 2, 1) := by decide +kernel
theorem dX7_past_23 : decode cX7_past 23 = .ok (.ireturn, 1) := by decide +kernel
theorem dX7_sure_0 : decode cX7_sure 0 = .ok (.iload_n 1, 1) := by decide +kernel
theorem dX7_sure_1 : decode cX7_sure 1 = .ok (.iconst 1, 1) := by decide +kernel
theorem dX7_sure_2 : decode cX7_sure 2 = .ok (.if_icmp .lt 17, 3) := by decide +kernel
theorem dX7_sure_19 : decode cX7_sure 19 = .ok (.bipush (-3), 2) := by decide +kernel
theorem dX7_sure_21 : decode cX7_sure 21 = .ok (.ireturn, 1) := by decide +kernel
theorem dX7_sure_5 : decode cX7_sure 5 = .ok (.iload_n 1, 1) := by decide +kernel
theorem dX7_sure_6 : decode cX7_sure 6 = .ok (.iconst 3, 1) := by decide +kernel
theorem dX7_sure_7 : decode cX7_sure 7 = .ok (.if_icmp .gt 12, 3) := by decide +kernel
theorem dX7_sure_10 : decode cX7_sure 10 = .ok (.iload_n 2, 1) := by decide +kernel
theorem dX7_sure_11 : decode cX7_sure 11 = .ok (.ifCond .lt 8, 3) := by decide +kernel
theorem dX7_sure_14 : decode cX7_sure 14 = .ok (.iload_n 2, 1) := by decide +kernel
theorem dX7_sure_15 : decode cX7_sure 15 = .ok (.iload_n 1, 1) := by decide +kernel
theorem dX7_sure_16 : decode cX7_sure 16 = .ok (.if_icmp .lt 6, 3) := by decide +kernel
theorem dX7_sure_22 : decode cX7_sure 22 = .ok (.aload_n 0, 1) := by decide +kernel
theorem dX7_sure_23 : decode cX7_sure 23 = .ok (.invokevirtual 322, 3) := by decide +kernel
theorem dX7_sure_26 : decode cX7_sure 26 = .ok (.istore_n 3, 1) := by decide +kernel
theorem dX7_sure_27 : decode cX7_sure 27 = .ok (.iload_n 3, 1) := by decide +kernel
theorem dX7_sure_28 : decode cX7_sure 28 = .ok (.ifCond .eq 5, 3) := by decide +kernel
theorem dX7_sure_31 : decode cX7_sure 31 = .ok (.iload_n 3, 1) := by decide +kernel
theorem dX7_sure_32 : decode cX7_sure 32 = .ok (.ireturn, 1) := by decide +kernel
theorem dX7_causes_0 : decode cX7_causes 0 = .ok (.iload_n 1, 1) := by decide +kernel
theorem dX7_causes_1 : decode cX7_causes 1 = .ok (.aload_n 0, 1) := by decide +kernel
theorem dX7_causes_2 : decode cX7_causes 2 = .ok (.getfield 19, 3) := by decide +kernel
theorem dX7_causes_5 : decode cX7_causes 5 = .ok (.invokevirtual 268, 3) := by decide +kernel
theorem dX7_causes_8 : decode cX7_causes 8 = .ok (.iconst (-1), 1) := by decide +kernel
theorem dX7_causes_9 : decode cX7_causes 9 = .ok (.ixor, 1) := by decide +kernel
theorem dX7_causes_10 : decode cX7_causes 10 = .ok (.iand, 1) := by decide +kernel
theorem dX7_causes_11 : decode cX7_causes 11 = .ok (.ifCond .eq 6, 3) := by decide +kernel
theorem dX7_causes_17 : decode cX7_causes 17 = .ok (.aload_n 0, 1) := by decide +kernel
theorem dX7_causes_18 : decode cX7_causes 18 = .ok (.getfield 19, 3) := by decide +kernel
theorem dX7_causes_21 : decode cX7_causes 21 = .ok (.invokevirtual 268, 3) := by decide +kernel
theorem dX7_causes_24 : decode cX7_causes 24 = .ok (.istore_n 2, 1) := by decide +kernel
theorem dX7_causes_25 : decode cX7_causes 25 = .ok (.iconst 0, 1) := by decide +kernel
theorem dX7_causes_26 : decode cX7_causes 26 = .ok (.istore_n 3, 1) := by decide +kernel
theorem dX7_causes_27 : decode cX7_causes 27 = .ok (.iload_n 3, 1) := by decide +kernel
theorem dX7_causes_28 : decode cX7_causes 28 = .ok (.aload_n 0, 1) := by decide +kernel
theorem dX7_causes_29 : decode cX7_causes 29 = .ok (.getfield 19, 3) := by decide +kernel
theorem dX7_causes_32 : decode cX7_causes 32 = .ok (.getfield 203, 3) := by decide +kernel
theorem dX7_causes_35 : decode cX7_causes 35 = .ok (.if_icmp .ge 29, 3) := by decide +kernel
theorem dX7_causes_64 : decode cX7_causes 64 = .ok (.iload_n 2, 1) := by decide +kernel
theorem dX7_causes_65 : decode cX7_causes 65 = .ok (.ireturn, 1) := by decide +kernel
theorem dX7_causes_14 : decode cX7_causes 14 = .ok (.bipush (-3), 2) := by decide +kernel
theorem dX7_causes_16 : decode cX7_causes 16 = .ok (.ireturn, 1) := by decide +kernel
theorem dX7_look_0 : decode cX7_look 0 = .ok (.iconst 0, 1) := by decide +kernel
theorem dX7_look_1 : decode cX7_look 1 = .ok (.istore_n 1, 1) := by decide +kernel
theorem dX7_look_2 : decode cX7_look 2 = .ok (.iconst 0, 1) := by decide +kernel
theorem dX7_look_3 : decode cX7_look 3 = .ok (.istore_n 2, 1) := by decide +kernel
theorem dX7_look_4 : decode cX7_look 4 = .ok (.iload_n 2, 1) := by decide +kernel
theorem dX7_look_5 : decode cX7_look 5 = .ok (.aload_n 0, 1) := by decide +kernel
theorem dX7_look_6 : decode cX7_look 6 = .ok (.getfield 19, 3) := by decide +kernel
theorem dX7_look_9 : decode cX7_look 9 = .ok (.getfield 203, 3) := by decide +kernel
theorem dX7_look_12 : decode cX7_look 12 = .ok (.if_icmp .ge 20, 3) := by decide +kernel
theorem dX7_look_32 : decode cX7_look 32 = .ok (.iload_n 1, 1) := by decide +kernel
theorem dX7_look_33 : decode cX7_look 33 = .ok (.invokestatic 233, 3) := by decide +kernel
theorem dX7_look_36 : decode cX7_look 36 = .ok (.istore_n 2, 1) := by decide +kernel
theorem dX7_look_37 : decode cX7_look 37 = .ok (.iload_n 2, 1) := by decide +kernel
theorem dX7_look_38 : decode cX7_look 38 = .ok (.iconst 2, 1) := by decide +kernel
theorem dX7_look_39 : decode cX7_look 39 = .ok (.if_icmp .ge 5, 3) := by decide +kernel
theorem dX7_look_42 : decode cX7_look 42 = .ok (.iconst (-1), 1) := by decide +kernel
theorem dX7_look_43 : decode cX7_look 43 = .ok (.ireturn, 1) := by decide +kernel
theorem dX7_numbers_0 : decode cX7_numbers 0 = .ok (.iload_n 1, 1) := by decide +kernel
theorem dX7_numbers_1 : decode cX7_numbers 1 = .ok (.invokestatic 178, 3) := by decide +kernel
theorem dX7_numbers_4 : decode cX7_numbers 4 = .ok (.ifCond .eq 12, 3) := by decide +kernel
theorem dX7_numbers_7 : decode cX7_numbers 7 = .ok (.iload_n 2, 1) := by decide +kernel
theorem dX7_numbers_8 : decode cX7_numbers 8 = .ok (.ifCond .lt 8, 3) := by decide +kernel
theorem dX7_numbers_16 : decode cX7_numbers 16 = .ok (.bipush (-2), 2) := by decide +kernel
theorem dX7_numbers_18 : decode cX7_numbers 18 = .ok (.ireturn, 1) := by decide +kernel
theorem dX7_numbers_11 : decode cX7_numbers 11 = .ok (.iload_n 2, 1) := by decide +kernel
theorem dX7_numbers_12 : decode cX7_numbers 12 = .ok (.iconst 3, 1) := by decide +kernel
theorem dX7_numbers_13 : decode cX7_numbers 13 = .ok (.if_icmp .le 6, 3) := by decide +kernel
theorem dX7_numbers_19 : decode cX7_numbers 19 = .ok (.iload_n 3, 1) := by decide +kernel
theorem dX7_numbers_20 : decode cX7_numbers 20 = .ok (.ifCond .lt 9, 3) := by decide +kernel
theorem dX7_numbers_29 : decode cX7_numbers 29 = .ok (.bipush (-3), 2) := by decide +kernel
theorem dX7_numbers_31 : decode cX7_numbers 31 = .ok (.ireturn, 1) := by decide +kernel
theorem dX7_numbers_23 : decode cX7_numbers 23 = .ok (.iload_n 3, 1) := by decide +kernel
theorem dX7_numbers_24 : decode cX7_numbers 24 = .ok (.bipush 40, 2) := by decide +kernel
theorem dX7_numbers_26 : decode cX7_numbers 26 = .ok (.if_icmp .le 6, 3) := by decide +kernel
theorem dX7_numbers_32 : decode cX7_numbers 32 = .ok (.aload_n 0, 1) := by decide +kernel
theorem dX7_numbers_33 : decode cX7_numbers 33 = .ok (.getfield 40, 3) := by decide +kernel
theorem dX7_numbers_36 : decode cX7_numbers 36 = .ok (.iload_n 1, 1) := by decide +kernel
theorem dX7_numbers_37 : decode cX7_numbers 37 = .ok (.aaload, 1) := by decide +kernel
theorem dX7_numbers_38 : decode cX7_numbers 38 = .ok (.iload_n 2, 1) := by decide +kernel
theorem dX7_numbers_39 : decode cX7_numbers 39 = .ok (.iload_n 3, 1) := by decide +kernel
theorem dX7_numbers_40 : decode cX7_numbers 40 = .ok (.invokevirtual 337, 3) := by decide +kernel
theorem hd_yX3_begin : HD yX3_begin RX3 2 := by decide +kernel
theorem mw_1129 : Cond.methodLink RX7 337 yX3_begin ∈ wsL_law := List.mem_of_getElem? (i := 1129) (by decide +kernel)
theorem mw_1130 : Cond.instanceMethod yX3_begin ∈ wsL_law := List.mem_of_getElem? (i := 1130) (by decide +kernel)
theorem mw_1131 : Cond.selects RX3 yX3_begin yX3_begin ∈ wsL_law := List.mem_of_getElem? (i := 1131) (by decide +kernel)
theorem mw_42 : Cond.initialized RX3 ∈ wsL_law := List.mem_of_getElem? (i := 42) (by decide +kernel)
theorem mw_1132 : Cond.code yX3_begin cX3_begin 4 none ∈ wsL_law := List.mem_of_getElem? (i := 1132) (by decide +kernel)
theorem dX7_numbers_43 : decode cX7_numbers 43 = .ok (.iconst 0, 1) := by decide +kernel
theorem dX7_numbers_44 : decode cX7_numbers 44 = .ok (.ireturn, 1) := by decide +kernel
theorem dX7_write_0 : decode cX7_write 0 = .ok (.iload_n 1, 1) := by decide +kernel
theorem dX7_write_1 : decode cX7_write 1 = .ok (.invokestatic 178, 3) := by decide +kernel
theorem dX7_write_4 : decode cX7_write 4 = .ok (.ifCond .ne 7, 3) := by decide +kernel
theorem dX7_write_11 : decode cX7_write 11 = .ok (.aload_n 0, 1) := by decide +kernel
theorem dX7_write_12 : decode cX7_write 12 = .ok (.getfield 40, 3) := by decide +kernel
theorem dX7_write_15 : decode cX7_write 15 = .ok (.iload_n 1, 1) := by decide +kernel
theorem dX7_write_16 : decode cX7_write 16 = .ok (.aaload, 1) := by decide +kernel
theorem dX7_write_17 : decode cX7_write 17 = .ok (.getfield 181, 3) := by decide +kernel
theorem dX7_write_20 : decode cX7_write 20 = .ok (.ifCond .ne 7, 3) := by decide +kernel
theorem dX7_write_23 : decode cX7_write 23 = .ok (.ldc2_w 340, 3) := by decide +kernel
theorem mw_1144 : Cond.constantLong RX7 340 (-6) ∈ wsL_law := List.mem_of_getElem? (i := 1144) (by decide +kernel)
theorem dX7_write_26 : decode cX7_write 26 = .ok (.lreturn, 1) := by decide +kernel
theorem dX7_write_7 : decode cX7_write 7 = .ok (.ldc2_w 287, 3) := by decide +kernel
theorem dX7_write_10 : decode cX7_write 10 = .ok (.lreturn, 1) := by decide +kernel
theorem dX7_image_0 : decode cX7_image 0 = .ok (.iload_n 1, 1) := by decide +kernel
theorem dX7_image_1 : decode cX7_image 1 = .ok (.ifCond .lt 8, 3) := by decide +kernel
theorem dX7_image_9 : decode cX7_image 9 = .ok (.bipush (-2), 2) := by decide +kernel
theorem dX7_image_11 : decode cX7_image 11 = .ok (.ireturn, 1) := by decide +kernel
theorem dX7_image_4 : decode cX7_image 4 = .ok (.iload_n 1, 1) := by decide +kernel
theorem dX7_image_5 : decode cX7_image 5 = .ok (.iconst 2, 1) := by decide +kernel
theorem dX7_image_6 : decode cX7_image 6 = .ok (.if_icmp .lt 6, 3) := by decide +kernel
theorem dX7_image_12 : decode cX7_image 12 = .ok (.aload_n 0, 1) := by decide +kernel
theorem dX7_image_13 : decode cX7_image 13 = .ok (.getfield 30, 3) := by decide +kernel
theorem mw_22 : Cond.fieldLink RX7 30 "ThatchNext" "images" "[LThatchNext$World;" ∈ wsL_law := List.mem_of_getElem? (i := 22) (by decide +kernel)
theorem dX7_image_16 : decode cX7_image 16 = .ok (.iload_n 1, 1) := by decide +kernel
theorem dX7_image_17 : decode cX7_image 17 = .ok (.aaload, 1) := by decide +kernel
theorem dX7_image_18 : decode cX7_image 18 = .ok (.aload_n 0, 1) := by decide +kernel
theorem dX7_image_19 : decode cX7_image 19 = .ok (.getfield 19, 3) := by decide +kernel
theorem dX7_image_22 : decode cX7_image 22 = .ok (.invokevirtual 90, 3) := by decide +kernel
theorem dX7_image_25 : decode cX7_image 25 = .ok (.aload_n 0, 1) := by decide +kernel
theorem dX7_image_26 : decode cX7_image 26 = .ok (.getfield 34, 3) := by decide +kernel
theorem dX7_image_29 : decode cX7_image 29 = .ok (.iload_n 1, 1) := by decide +kernel
theorem dX7_image_30 : decode cX7_image 30 = .ok (.iconst 1, 1) := by decide +kernel
theorem dX7_image_31 : decode cX7_image 31 = .ok (.bastore, 1) := by decide +kernel
theorem dX7_image_32 : decode cX7_image 32 = .ok (.iconst 0, 1) := by decide +kernel
theorem dX7_image_33 : decode cX7_image 33 = .ok (.ireturn, 1) := by decide +kernel
theorem dX7_restore_0 : decode cX7_restore 0 = .ok (.iload_n 1, 1) := by decide +kernel
theorem dX7_restore_1 : decode cX7_restore 1 = .ok (.ifCond .lt 8, 3) := by decide +kernel
theorem dX7_restore_9 : decode cX7_restore 9 = .ok (.bipush (-2), 2) := by decide +kernel
theorem dX7_restore_11 : decode cX7_restore 11 = .ok (.ireturn, 1) := by decide +kernel
theorem dX7_restore_4 : decode cX7_restore 4 = .ok (.iload_n 1, 1) := by decide +kernel
theorem dX7_restore_5 : decode cX7_restore 5 = .ok (.iconst 2, 1) := by decide +kernel
theorem dX7_restore_6 : decode cX7_restore 6 = .ok (.if_icmp .lt 6, 3) := by decide +kernel
theorem dX7_restore_12 : decode cX7_restore 12 = .ok (.aload_n 0, 1) := by decide +kernel
theorem dX7_restore_13 : decode cX7_restore 13 = .ok (.getfield 34, 3) := by decide +kernel
theorem dX7_restore_16 : decode cX7_restore 16 = .ok (.iload_n 1, 1) := by decide +kernel
theorem dX7_restore_17 : decode cX7_restore 17 = .ok (.baload, 1) := by decide +kernel
theorem dX7_restore_18 : decode cX7_restore 18 = .ok (.ifCond .ne 6, 3) := by decide +kernel
theorem dX7_restore_21 : decode cX7_restore 21 = .ok (.bipush (-5), 2) := by decide +kernel
theorem dX7_restore_23 : decode cX7_restore 23 = .ok (.ireturn, 1) := by decide +kernel
theorem dX7_count_0 : decode cX7_count 0 = .ok (.iload_n 1, 1) := by decide +kernel
theorem dX7_count_1 : decode cX7_count 1 = .ok (.tableswitch 191 0 13 #[71, 79, 87, 95, 103, 111, 119, 127, 135, 143, 151, 167, 175, 183], 71) := by decide +kernel
theorem dX7_count_72 : decode cX7_count 72 = .ok (.aload_n 0, 1) := by decide +kernel
theorem dX7_count_73 : decode cX7_count 73 = .ok (.getfield 19, 3) := by decide +kernel
theorem dX7_count_76 : decode cX7_count 76 = .ok (.getfield 203, 3) := by decide +kernel
theorem dX7_count_79 : decode cX7_count 79 = .ok (.ireturn, 1) := by decide +kernel
theorem dX7_count_80 : decode cX7_count 80 = .ok (.aload_n 0, 1) := by decide +kernel
theorem dX7_count_81 : decode cX7_count 81 = .ok (.getfield 19, 3) := by decide +kernel
theorem dX7_count_84 : decode cX7_count 84 = .ok (.getfield 165, 3) := by decide +kernel
theorem dX7_count_87 : decode cX7_count 87 = .ok (.ireturn, 1) := by decide +kernel
theorem dX7_count_88 : decode cX7_count 88 = .ok (.aload_n 0, 1) := by decide +kernel
theorem dX7_count_89 : decode cX7_count 89 = .ok (.getfield 19, 3) := by decide +kernel
theorem dX7_count_92 : decode cX7_count 92 = .ok (.getfield 348, 3) := by decide +kernel
theorem mw_1187 : Cond.fieldLink RX7 348 "ThatchNext$World" "deep" "I" ∈ wsL_law := List.mem_of_getElem? (i := 1187) (by decide +kernel)
theorem dX7_count_95 : decode cX7_count 95 = .ok (.ireturn, 1) := by decide +kernel
theorem dX7_count_96 : decode cX7_count 96 = .ok (.aload_n 0, 1) := by decide +kernel
theorem dX7_count_97 : decode cX7_count 97 = .ok (.getfield 19, 3) := by decide +kernel
theorem dX7_count_100 : decode cX7_count 100 = .ok (.getfield 351, 3) := by decide +kernel
theorem mw_1188 : Cond.fieldLink RX7 351 "ThatchNext$World" "reedYears" "I" ∈ wsL_law := List.mem_of_getElem? (i := 1188) (by decide +kernel)
theorem dX7_count_103 : decode cX7_count 103 = .ok (.ireturn, 1) := by decide +kernel
theorem dX7_count_104 : decode cX7_count 104 = .ok (.aload_n 0, 1) := by decide +kernel
theorem dX7_count_105 : decode cX7_count 105 = .ok (.getfield 19, 3) := by decide +kernel
theorem dX7_count_108 : decode cX7_count 108 = .ok (.getfield 354, 3) := by decide +kernel
theorem mw_1189 : Cond.fieldLink RX7 354 "ThatchNext$World" "strawYears" "I" ∈ wsL_law := List.mem_of_getElem? (i := 1189) (by decide +kernel)
theorem dX7_count_111 : decode cX7_count 111 = .ok (.ireturn, 1) := by decide +kernel
theorem dX7_count_112 : decode cX7_count 112 = .ok (.aload_n 0, 1) := by decide +kernel
theorem dX7_count_113 : decode cX7_count 113 = .ok (.getfield 19, 3) := by decide +kernel
theorem dX7_count_116 : decode cX7_count 116 = .ok (.getfield 296, 3) := by decide +kernel
theorem dX7_count_119 : decode cX7_count 119 = .ok (.ireturn, 1) := by decide +kernel
theorem dX7_count_120 : decode cX7_count 120 = .ok (.aload_n 0, 1) := by decide +kernel
theorem dX7_count_121 : decode cX7_count 121 = .ok (.getfield 19, 3) := by decide +kernel
theorem dX7_count_124 : decode cX7_count 124 = .ok (.invokevirtual 357, 3) := by decide +kernel
theorem hd_yX6_layersInAll : HD yX6_layersInAll RX6 0 := by decide +kernel
theorem mw_1191 : Cond.methodLink RX7 357 yX6_layersInAll ∈ wsL_law := List.mem_of_getElem? (i := 1191) (by decide +kernel)
theorem mw_1192 : Cond.instanceMethod yX6_layersInAll ∈ wsL_law := List.mem_of_getElem? (i := 1192) (by decide +kernel)
theorem mw_1193 : Cond.selects RX6 yX6_layersInAll yX6_layersInAll ∈ wsL_law := List.mem_of_getElem? (i := 1193) (by decide +kernel)
theorem mw_1194 : Cond.code yX6_layersInAll cX6_layersInAll 3 (some .int) ∈ wsL_law := List.mem_of_getElem? (i := 1194) (by decide +kernel)
theorem dX7_count_127 : decode cX7_count 127 = .ok (.ireturn, 1) := by decide +kernel
theorem dX7_count_128 : decode cX7_count 128 = .ok (.aload_n 0, 1) := by decide +kernel
theorem dX7_count_129 : decode cX7_count 129 = .ok (.getfield 19, 3) := by decide +kernel
theorem dX7_count_132 : decode cX7_count 132 = .ok (.invokevirtual 278, 3) := by decide +kernel
theorem dX7_count_135 : decode cX7_count 135 = .ok (.ireturn, 1) := by decide +kernel
theorem dX7_count_136 : decode cX7_count 136 = .ok (.aload_n 0, 1) := by decide +kernel
theorem dX7_count_137 : decode cX7_count 137 = .ok (.getfield 19, 3) := by decide +kernel
theorem dX7_count_140 : decode cX7_count 140 = .ok (.invokevirtual 262, 3) := by decide +kernel
theorem dX7_count_143 : decode cX7_count 143 = .ok (.ireturn, 1) := by decide +kernel
theorem dX7_count_144 : decode cX7_count 144 = .ok (.aload_n 0, 1) := by decide +kernel
theorem dX7_count_145 : decode cX7_count 145 = .ok (.getfield 19, 3) := by decide +kernel
theorem dX7_count_148 : decode cX7_count 148 = .ok (.invokevirtual 200, 3) := by decide +kernel
theorem hd_yX6_laidInAll : HD yX6_laidInAll RX6 0 := by decide +kernel
theorem mw_584 : Cond.methodLink RX7 200 yX6_laidInAll ∈ wsL_law := List.mem_of_getElem? (i := 584) (by decide +kernel)
theorem mw_585 : Cond.instanceMethod yX6_laidInAll ∈ wsL_law := List.mem_of_getElem? (i := 585) (by decide +kernel)
theorem mw_586 : Cond.selects RX6 yX6_laidInAll yX6_laidInAll ∈ wsL_law := List.mem_of_getElem? (i := 586) (by decide +kernel)
theorem mw_587 : Cond.code yX6_laidInAll cX6_laidInAll 3 (some .int) ∈ wsL_law := List.mem_of_getElem? (i := 587) (by decide +kernel)
theorem dX7_count_151 : decode cX7_count 151 = .ok (.ireturn, 1) := by decide +kernel
theorem dX7_count_152 : decode cX7_count 152 = .ok (.aload_n 0, 1) := by decide +kernel
theorem dX7_count_153 : decode cX7_count 153 = .ok (.getfield 19, 3) := by decide +kernel
theorem dX7_count_156 : decode cX7_count 156 = .ok (.getfield 360, 3) := by decide +kernel
theorem mw_1190 : Cond.fieldLink RX7 360 "ThatchNext$World" "isRing" "Z" ∈ wsL_law := List.mem_of_getElem? (i := 1190) (by decide +kernel)
theorem dX7_count_159 : decode cX7_count 159 = .ok (.ifCond .eq 7, 3) := by decide +kernel
theorem dX7_count_166 : decode cX7_count 166 = .ok (.iconst 0, 1) := by decide +kernel
theorem dX7_count_167 : decode cX7_count 167 = .ok (.ireturn, 1) := by decide +kernel
theorem dX7_count_168 : decode cX7_count 168 = .ok (.aload_n 0, 1) := by decide +kernel
theorem dX7_count_169 : decode cX7_count 169 = .ok (.getfield 10, 3) := by decide +kernel
theorem dX7_count_172 : decode cX7_count 172 = .ok (.getfield 70, 3) := by decide +kernel
theorem dX7_count_175 : decode cX7_count 175 = .ok (.ireturn, 1) := by decide +kernel
theorem dX7_count_176 : decode cX7_count 176 = .ok (.aload_n 0, 1) := by decide +kernel
theorem dX7_count_177 : decode cX7_count 177 = .ok (.getfield 19, 3) := by decide +kernel
theorem dX7_count_180 : decode cX7_count 180 = .ok (.getfield 97, 3) := by decide +kernel
theorem dX7_count_183 : decode cX7_count 183 = .ok (.ireturn, 1) := by decide +kernel
theorem dX7_count_184 : decode cX7_count 184 = .ok (.aload_n 0, 1) := by decide +kernel
theorem dX7_count_185 : decode cX7_count 185 = .ok (.getfield 19, 3) := by decide +kernel
theorem dX7_count_188 : decode cX7_count 188 = .ok (.invokevirtual 363, 3) := by decide +kernel
theorem hd_yX6_wetInAll : HD yX6_wetInAll RX6 0 := by decide +kernel
theorem mw_1195 : Cond.methodLink RX7 363 yX6_wetInAll ∈ wsL_law := List.mem_of_getElem? (i := 1195) (by decide +kernel)
theorem mw_1196 : Cond.instanceMethod yX6_wetInAll ∈ wsL_law := List.mem_of_getElem? (i := 1196) (by decide +kernel)
theorem mw_1197 : Cond.selects RX6 yX6_wetInAll yX6_wetInAll ∈ wsL_law := List.mem_of_getElem? (i := 1197) (by decide +kernel)
theorem mw_1198 : Cond.code yX6_wetInAll cX6_wetInAll 4 (some .int) ∈ wsL_law := List.mem_of_getElem? (i := 1198) (by decide +kernel)
theorem dX7_count_191 : decode cX7_count 191 = .ok (.ireturn, 1) := by decide +kernel
theorem dX7_count_192 : decode cX7_count 192 = .ok (.iconst (-1), 1) := by decide +kernel
theorem dX7_count_193 : decode cX7_count 193 = .ok (.ireturn, 1) := by decide +kernel
set_option maxHeartbeats 4000000 in
set_option maxRecDepth 100000 in
theorem c_T_feed (l : Launch) (D : va_G) (k : Nat → ClassId) (t : Nat → Nat) (n : Nat → Nat) (v : Nat → Nat) (d : Nat → Nat) (u : Nat → Nat) (f : Nat → Int32) (a : Int32) (x : Int32) (z : Int32) (g : Int32) (h : Int32) (sz : Nat) : Met l yX7_feed (Cond.code yX7_feed cX7_feed 6 (some .int) :: wsL_law) ({ frames := 1, cells := 0, slots := 0, locals := 60 } : Room) (va_Pc [.ref (t 0), .int a, .int x, .int z, .int g, .int h] (pu D k sz [((t 0), .inr (6, [.ref (t 1), .int 0, .ref (n 0), .ref (v 0), .ref (t 2), .ref (t 3), .ref (t 4), .ref (t 5), .ref (d 0), .ref (t 6), .ref (t 7)])), ((t 1), .inr (4, [.ref (u 0), .int 0, .int (-1), .int 0, .ref (t 8), .int 0, .int 0, .int 0, .int 0, .int 0])), ((t 8), .inl (k 2, 900, .inl f))])) (va_Qi (fun rr (uu : Unit) => rr = 20) (qu D (va_A [((t 0), .inr (6, [.ref (t 1), .int 0, .ref (n 0), .ref (v 0), .ref (t 2), .ref (t 3), .ref (t 4), .ref (t 5), .ref (d 0), .ref (t 6), .ref (t 7)])), ((t 1), .inr (4, [.ref (u 0), .int 0, .int (-1), .int 0, .ref (t 8), .int 0, .int 0, .int 0, .int 0, .int 0])), ((t 8), .inl (k 2, 900, .inl f))] sz) (fun uu : Unit => [])) (va_A [((t 0), .inr (6, [.ref (t 1), .int 0, .ref (n 0), .ref (v 0), .ref (t 2), .ref (t 3), .ref (t 4), .ref (t 5), .ref (d 0), .ref (t 6), .ref (t 7)])), ((t 1), .inr (4, [.ref (u 0), .int 0, .int (-1), .int 0, .ref (t 8), .int 0, .int 0, .int 0, .int 0, .int 0])), ((t 8), .inl (k 2, 900, .inl f))] sz)) 0 0 (va_A [((t 0), .inr (6, [.ref (t 1), .int 0, .ref (n 0), .ref (v 0), .ref (t 2), .ref (t 3), .ref (t 4), .ref (t 5), .ref (d 0), .ref (t 6), .ref (t 7)])), ((t 1), .inr (4, [.ref (u 0), .int 0, .int (-1), .int 0, .ref (t 8), .int 0, .int 0, .int 0, .int 0, .int 0])), ((t 8), .inl (k 2, 900, .inl f))] sz) := by
  refine Met.ofW (cc := cX7_feed) (maxL := 6) (ret := (some .int)) (by decide) rfl ?_
  intro p e s m args below meth c s₁ B hml hv
  obtain ⟨rfl, hsz, hP, hK, hD0⟩ := hv
  have hx := B.exec
  have hb := B.bytes
  have hr := B.returns
  have hts : ∀ w ∈ wsL_law, w.before _ s = true := fun w h => atoms_spec (ws := Cond.code yX7_feed cX7_feed 6 (some .int) :: wsL_law) B.pre w (List.mem_cons_of_mem _ h)
  have hown : s.vm.findClass RX7 = some m.cls := findClass_of_methodNamed B.named
  have hlocks := B.notSynchronized
  subst hsz
  have hD := hD0.self (sz := s.heap.size)
  generalize hAe : va_A [((t 0), .inr (6, [.ref (t 1), .int 0, .ref (n 0), .ref (v 0), .ref (t 2), .ref (t 3), .ref (t 4), .ref (t 5), .ref (d 0), .ref (t 6), .ref (t 7)])), ((t 1), .inr (4, [.ref (u 0), .int 0, .int (-1), .int 0, .ref (t 8), .int 0, .int 0, .int 0, .int 0, .int 0])), ((t 8), .inl (k 2, 900, .inl f))] s.heap.size = A at hD ⊢
  have hA : ∀ q : Nat, s.heap.size ≤ q → A q := fun q h => by rw [← hAe]; exact Or.inr h
  have hS : va_S A s.heap s.heap [] := va_S.rf
  have hP : va_P D vwCl [((t 0), .inr (6, [.ref (t 1), .int 0, .ref (n 0), .ref (v 0), .ref (t 2), .ref (t 3), .ref (t 4), .ref (t 5), .ref (d 0), .ref (t 6), .ref (t 7)])), ((t 1), .inr (4, [.ref (u 0), .int 0, .int (-1), .int 0, .ref (t 8), .int 0, .int 0, .int 0, .int 0, .int 0])), ((t 8), .inl (k 2, 900, .inl f))] s.heap := hP
  have hl := lv_entry ([.ref (t 0), .int a, .int x, .int z, .int g, .int h]) (n := 6) (Nat.le_of_ble_eq_true rfl)
  rw [lg_entry_eq]
  generalize (lg_sl ([.ref (t 0), .int a, .int x, .int z, .int g, .int h]) ++ List.replicate (6 - (lg_sl ([.ref (t 0), .int a, .int x, .int z, .int g, .int h])).length) Slot.unset).toArray = ls at hl ⊢
  have hl : lv_has ls 6 [(0, .ref (t 0)), (1, .int a), (2, .int x), (3, .int z), (4, .int g), (5, .int h)] := hl
  refine lv_aload_n hx hb dX7_feed_0 rfl (lv_at hl 0 rfl) ?_
  refine va_get (D := D) (ci := 6) (v := .ref (t 1)) (C := RX7) (T := TX7) (N := 11) hx hb hts inlX7 hown hK hP 0 rfl rfl 0 (by decide) (hts _ mw_16) (fun _ h9 => h9) rfl dX7_feed_1 ?_
  refine va_get (D := D) (ci := 4) (v := .int 0) (C := RX5) (T := TX5) (N := 10) hx hb hts inlX5 hown hK hP 1 rfl rfl 3 (by decide) (hts _ mw_115) (fun _ h9 => h9) rfl dX7_feed_4 ?_
  refine lv_bipush (v := 20) hx hb dX7_feed_7 (by decide) ?_
  refine lv_iadd hx hb dX7_feed_9 ?_
  refine lv_ni (v := 20) (by decide) ?_
  refine lv_sipush (v := 900) hx hb dX7_feed_10 (by decide) ?_
  refine lv_icmp_le (tgt := 19) hx hb dX7_feed_13 (by decide) (fun _ => ?_) (fun c9 => absurd c9 (by decide))
  refine lv_aload_n hx hb dX7_feed_19 rfl (lv_at hl 0 rfl) ?_
  refine va_get (D := D) (ci := 6) (v := .ref (t 1)) (C := RX7) (T := TX7) (N := 11) hx hb hts inlX7 hown hK hP 0 rfl rfl 0 (by decide) (hts _ mw_16) (fun _ h9 => h9) rfl dX7_feed_20 ?_
  refine lv_iload_n hx hb dX7_feed_23 rfl (lv_at hl 1 rfl) ?_
  refine kV_uv (q0 := 0) (As := [.int a]) (rest := []) (wc := [((t 1), .inr (4, [.ref (u 0), .int 0, .int (-1), .int 0, .ref (t 8), .int 0, .int 0, .int 0, .int 0, .int 0])), ((t 8), .inl (k 2, 900, .inl f))]) (wr := [((t 0), .inr (6, [.ref (t 1), .int 0, .ref (n 0), .ref (v 0), .ref (t 2), .ref (t 3), .ref (t 4), .ref (t 5), .ref (d 0), .ref (t 6), .ref (t 7)]))]) ⟨hx, hb, hml, hown, hts⟩ (c_R_takeInt0 l D k _ _ f a _) (gV mw_116 mw_117 mw_118 mw_15 mw_119) hd_yX5_takeInt rfl rfl ⟨Nat.le_of_ble_eq_true rfl, Nat.le_of_ble_eq_true rfl⟩ hK hP hD hS hA [1, 2] [0] rfl rfl (by decide) (by decide) (by decide) rfl rfl rfl rfl hl.1 rfl (Nat.le_of_ble_eq_true rfl) dX7_feed_24 ⟨Nat.le_of_ble_eq_true rfl, Nat.le_of_ble_eq_true rfl⟩ (fun u_2 H locs hw hP hD hS => ?_)
  obtain ⟨v_3, rfl⟩ : ∃ z, z = u_2 := ⟨_, rfl⟩
  have hP : va_P D vwCl [((t 0), .inr (6, [.ref (t 1), .int 0, .ref (n 0), .ref (v 0), .ref (t 2), .ref (t 3), .ref (t 4), .ref (t 5), .ref (d 0), .ref (t 6), .ref (t 7)])), ((t 1), .inr (4, [.ref (u 0), .int 0, .int (-1), .int 4, .ref (t 8), .int 0, .int 0, .int 0, .int 0, .int 0])), ((t 8), .inl (k 2, 900, .inl v_3))] H := hP
  have hD : va_D A [((t 0), .inr (6, [.ref (t 1), .int 0, .ref (n 0), .ref (v 0), .ref (t 2), .ref (t 3), .ref (t 4), .ref (t 5), .ref (d 0), .ref (t 6), .ref (t 7)])), ((t 1), .inr (4, [.ref (u 0), .int 0, .int (-1), .int 4, .ref (t 8), .int 0, .int 0, .int 0, .int 0, .int 0])), ((t 8), .inl (k 2, 900, .inl v_3))] := hD
  refine lv_aload_n hx hb dX7_feed_27 rfl (lv_at hl 0 rfl) ?_
  refine va_get (D := D) (ci := 6) (v := .ref (t 1)) (C := RX7) (T := TX7) (N := 11) hx hb hts inlX7 hown hK hP 0 rfl rfl 0 (by decide) (hts _ mw_16) (fun _ h9 => h9) rfl dX7_feed_28 ?_
  refine lv_iload_n hx hb dX7_feed_31 rfl (lv_at hl 2 rfl) ?_
  refine kV_uv (q0 := 0) (As := [.int x]) (rest := []) (wc := [((t 1), .inr (4, [.ref (u 0), .int 0, .int (-1), .int 4, .ref (t 8), .int 0, .int 0, .int 0, .int 0, .int 0])), ((t 8), .inl (k 2, 900, .inl v_3))]) (wr := [((t 0), .inr (6, [.ref (t 1), .int 0, .ref (n 0), .ref (v 0), .ref (t 2), .ref (t 3), .ref (t 4), .ref (t 5), .ref (d 0), .ref (t 6), .ref (t 7)]))]) ⟨hx, hb, hml, hown, hts⟩ (c_R_takeInt4 l D k _ _ v_3 x _) (gV mw_116 mw_117 mw_118 mw_15 mw_119) hd_yX5_takeInt rfl rfl ⟨Nat.le_of_ble_eq_true rfl, Nat.le_of_ble_eq_true rfl⟩ hK hP hD hS hA [1, 2] [0] rfl rfl (by decide) (by decide) (by decide) rfl rfl rfl rfl hl.1 rfl (Nat.le_of_ble_eq_true rfl) dX7_feed_32 ⟨Nat.le_of_ble_eq_true rfl, Nat.le_of_ble_eq_true rfl⟩ (fun u_5 H locs hw hP hD hS => ?_)
  obtain ⟨v_6, rfl⟩ : ∃ z, z = u_5 := ⟨_, rfl⟩
  have hP : va_P D vwCl [((t 0), .inr (6, [.ref (t 1), .int 0, .ref (n 0), .ref (v 0), .ref (t 2), .ref (t 3), .ref (t 4), .ref (t 5), .ref (d 0), .ref (t 6), .ref (t 7)])), ((t 1), .inr (4, [.ref (u 0), .int 0, .int (-1), .int 8, .ref (t 8), .int 0, .int 0, .int 0, .int 0, .int 0])), ((t 8), .inl (k 2, 900, .inl v_6))] H := hP
  have hD : va_D A [((t 0), .inr (6, [.ref (t 1), .int 0, .ref (n 0), .ref (v 0), .ref (t 2), .ref (t 3), .ref (t 4), .ref (t 5), .ref (d 0), .ref (t 6), .ref (t 7)])), ((t 1), .inr (4, [.ref (u 0), .int 0, .int (-1), .int 8, .ref (t 8), .int 0, .int 0, .int 0, .int 0, .int 0])), ((t 8), .inl (k 2, 900, .inl v_6))] := hD
  refine lv_aload_n hx hb dX7_feed_35 rfl (lv_at hl 0 rfl) ?_
  refine va_get (D := D) (ci := 6) (v := .ref (t 1)) (C := RX7) (T := TX7) (N := 11) hx hb hts inlX7 hown hK hP 0 rfl rfl 0 (by decide) (hts _ mw_16) (fun _ h9 => h9) rfl dX7_feed_36 ?_
  refine lv_iload_n hx hb dX7_feed_39 rfl (lv_at hl 3 rfl) ?_
  refine kV_uv (q0 := 0) (As := [.int z]) (rest := []) (wc := [((t 1), .inr (4, [.ref (u 0), .int 0, .int (-1), .int 8, .ref (t 8), .int 0, .int 0, .int 0, .int 0, .int 0])), ((t 8), .inl (k 2, 900, .inl v_6))]) (wr := [((t 0), .inr (6, [.ref (t 1), .int 0, .ref (n 0), .ref (v 0), .ref (t 2), .ref (t 3), .ref (t 4), .ref (t 5), .ref (d 0), .ref (t 6), .ref (t 7)]))]) ⟨hx, hb, hml, hown, hts⟩ (c_R_takeInt8 l D k _ _ v_6 z _) (gV mw_116 mw_117 mw_118 mw_15 mw_119) hd_yX5_takeInt rfl rfl ⟨Nat.le_of_ble_eq_true rfl, Nat.le_of_ble_eq_true rfl⟩ hK hP hD hS hA [1, 2] [0] rfl rfl (by decide) (by decide) (by decide) rfl rfl rfl rfl hl.1 rfl (Nat.le_of_ble_eq_true rfl) dX7_feed_40 ⟨Nat.le_of_ble_eq_true rfl, Nat.le_of_ble_eq_true rfl⟩ (fun u_8 H locs hw hP hD hS => ?_)
  obtain ⟨v_9, rfl⟩ : ∃ z, z = u_8 := ⟨_, rfl⟩
  have hP : va_P D vwCl [((t 0), .inr (6, [.ref (t 1), .int 0, .ref (n 0), .ref (v 0), .ref (t 2), .ref (t 3), .ref (t 4), .ref (t 5), .ref (d 0), .ref (t 6), .ref (t 7)])), ((t 1), .inr (4, [.ref (u 0), .int 0, .int (-1), .int 12, .ref (t 8), .int 0, .int 0, .int 0, .int 0, .int 0])), ((t 8), .inl (k 2, 900, .inl v_9))] H := hP
  have hD : va_D A [((t 0), .inr (6, [.ref (t 1), .int 0, .ref (n 0), .ref (v 0), .ref (t 2), .ref (t 3), .ref (t 4), .ref (t 5), .ref (d 0), .ref (t 6), .ref (t 7)])), ((t 1), .inr (4, [.ref (u 0), .int 0, .int (-1), .int 12, .ref (t 8), .int 0, .int 0, .int 0, .int 0, .int 0])), ((t 8), .inl (k 2, 900, .inl v_9))] := hD
  refine lv_aload_n hx hb dX7_feed_43 rfl (lv_at hl 0 rfl) ?_
  refine va_get (D := D) (ci := 6) (v := .ref (t 1)) (C := RX7) (T := TX7) (N := 11) hx hb hts inlX7 hown hK hP 0 rfl rfl 0 (by decide) (hts _ mw_16) (fun _ h9 => h9) rfl dX7_feed_44 ?_
  refine lv_iload hx hb dX7_feed_47 (lv_at hl 4 rfl) ?_
  refine kV_uv (q0 := 0) (As := [.int g]) (rest := []) (wc := [((t 1), .inr (4, [.ref (u 0), .int 0, .int (-1), .int 12, .ref (t 8), .int 0, .int 0, .int 0, .int 0, .int 0])), ((t 8), .inl (k 2, 900, .inl v_9))]) (wr := [((t 0), .inr (6, [.ref (t 1), .int 0, .ref (n 0), .ref (v 0), .ref (t 2), .ref (t 3), .ref (t 4), .ref (t 5), .ref (d 0), .ref (t 6), .ref (t 7)]))]) ⟨hx, hb, hml, hown, hts⟩ (c_R_takeInt12 l D k _ _ v_9 g _) (gV mw_116 mw_117 mw_118 mw_15 mw_119) hd_yX5_takeInt rfl rfl ⟨Nat.le_of_ble_eq_true rfl, Nat.le_of_ble_eq_true rfl⟩ hK hP hD hS hA [1, 2] [0] rfl rfl (by decide) (by decide) (by decide) rfl rfl rfl rfl hl.1 rfl (Nat.le_of_ble_eq_true rfl) dX7_feed_49 ⟨Nat.le_of_ble_eq_true rfl, Nat.le_of_ble_eq_true rfl⟩ (fun u_11 H locs hw hP hD hS => ?_)
  obtain ⟨v_12, rfl⟩ : ∃ z, z = u_11 := ⟨_, rfl⟩
  have hP : va_P D vwCl [((t 0), .inr (6, [.ref (t 1), .int 0, .ref (n 0), .ref (v 0), .ref (t 2), .ref (t 3), .ref (t 4), .ref (t 5), .ref (d 0), .ref (t 6), .ref (t 7)])), ((t 1), .inr (4, [.ref (u 0), .int 0, .int (-1), .int 16, .ref (t 8), .int 0, .int 0, .int 0, .int 0, .int 0])), ((t 8), .inl (k 2, 900, .inl v_12))] H := hP
  have hD : va_D A [((t 0), .inr (6, [.ref (t 1), .int 0, .ref (n 0), .ref (v 0), .ref (t 2), .ref (t 3), .ref (t 4), .ref (t 5), .ref (d 0), .ref (t 6), .ref (t 7)])), ((t 1), .inr (4, [.ref (u 0), .int 0, .int (-1), .int 16, .ref (t 8), .int 0, .int 0, .int 0, .int 0, .int 0])), ((t 8), .inl (k 2, 900, .inl v_12))] := hD
  refine lv_aload_n hx hb dX7_feed_52 rfl (lv_at hl 0 rfl) ?_
  refine va_get (D := D) (ci := 6) (v := .ref (t 1)) (C := RX7) (T := TX7) (N := 11) hx hb hts inlX7 hown hK hP 0 rfl rfl 0 (by decide) (hts _ mw_16) (fun _ h9 => h9) rfl dX7_feed_53 ?_
  refine lv_iload hx hb dX7_feed_56 (lv_at hl 5 rfl) ?_
  refine kV_uv (q0 := 0) (As := [.int h]) (rest := []) (wc := [((t 1), .inr (4, [.ref (u 0), .int 0, .int (-1), .int 16, .ref (t 8), .int 0, .int 0, .int 0, .int 0, .int 0])), ((t 8), .inl (k 2, 900, .inl v_12))]) (wr := [((t 0), .inr (6, [.ref (t 1), .int 0, .ref (n 0), .ref (v 0), .ref (t 2), .ref (t 3), .ref (t 4), .ref (t 5), .ref (d 0), .ref (t 6), .ref (t 7)]))]) ⟨hx, hb, hml, hown, hts⟩ (c_R_takeInt16 l D k _ _ v_12 h _) (gV mw_116 mw_117 mw_118 mw_15 mw_119) hd_yX5_takeInt rfl rfl ⟨Nat.le_of_ble_eq_true rfl, Nat.le_of_ble_eq_true rfl⟩ hK hP hD hS hA [1, 2] [0] rfl rfl (by decide) (by decide) (by decide) rfl rfl rfl rfl hl.1 rfl (Nat.le_of_ble_eq_true rfl) dX7_feed_58 ⟨Nat.le_of_ble_eq_true rfl, Nat.le_of_ble_eq_true rfl⟩ (fun u_14 H locs hw hP hD hS => ?_)
  obtain ⟨v_15, rfl⟩ : ∃ z, z = u_14 := ⟨_, rfl⟩
  have hP : va_P D vwCl [((t 0), .inr (6, [.ref (t 1), .int 0, .ref (n 0), .ref (v 0), .ref (t 2), .ref (t 3), .ref (t 4), .ref (t 5), .ref (d 0), .ref (t 6), .ref (t 7)])), ((t 1), .inr (4, [.ref (u 0), .int 0, .int (-1), .int 20, .ref (t 8), .int 0, .int 0, .int 0, .int 0, .int 0])), ((t 8), .inl (k 2, 900, .inl v_15))] H := hP
  have hD : va_D A [((t 0), .inr (6, [.ref (t 1), .int 0, .ref (n 0), .ref (v 0), .ref (t 2), .ref (t 3), .ref (t 4), .ref (t 5), .ref (d 0), .ref (t 6), .ref (t 7)])), ((t 1), .inr (4, [.ref (u 0), .int 0, .int (-1), .int 20, .ref (t 8), .int 0, .int 0, .int 0, .int 0, .int 0])), ((t 8), .inl (k 2, 900, .inl v_15))] := hD
  refine lv_aload_n hx hb dX7_feed_61 rfl (lv_at hl 0 rfl) ?_
  refine va_get (D := D) (ci := 6) (v := .ref (t 1)) (C := RX7) (T := TX7) (N := 11) hx hb hts inlX7 hown hK hP 0 rfl rfl 0 (by decide) (hts _ mw_16) (fun _ h9 => h9) rfl dX7_feed_62 ?_
  refine va_get (D := D) (ci := 4) (v := .int 20) (C := RX5) (T := TX5) (N := 10) hx hb hts inlX5 hown hK hP 1 rfl rfl 3 (by decide) (hts _ mw_115) (fun _ h9 => h9) rfl dX7_feed_65 ?_
  have hP9 := hP.sub (ws' := []) [] rfl
  have hD9 := hD.sub (ws' := []) [] (by decide) rfl
  exact W.iret (v := 20) hx hb hr (fun t ht hW => ⟨⟨20, (), rfl, rfl, by rw [ht]; exact hP9, hD9⟩, hS.F ht⟩) hS.2.2 dX7_feed_68
set_option maxHeartbeats 4000000 in
set_option maxRecDepth 100000 in
theorem c_T_row (l : Launch) (D : va_G) (k : Nat → ClassId) (t : Nat → Nat) (n : Nat → Nat) (v : Nat → Nat) (d : Nat → Nat) (u : Nat → Nat) (a : Int32) (sz : Nat) : Met l yX7_row (Cond.code yX7_row cX7_row 2 (some .int) :: wsL_law) ({ frames := 2, cells := 0, slots := 0, locals := 120 } : Room) (va_Pc [.ref (t 0), .int a] (pu D k sz [((t 0), .inr (6, [.ref (t 1), .int 0, .ref (n 0), .ref (v 0), .ref (t 2), .ref (t 3), .ref (t 4), .ref (t 5), .ref (d 0), .ref (t 6), .ref (t 7)])), ((t 1), .inr (4, [.ref (u 0), .int 0, .int (-1), .int 0, .ref (t 8), .int 0, .int 0, .int 0, .int 0, .int 0])), ((u 0), .inr (5, [.int 0, .int 0, .int 3, .int 8, .int 4, .int 4, .int 0, .int 0, .int 0, .int 0, .int 0, .ref (u 1), .ref (u 2), .ref (u 3), .ref (u 4), .ref (u 5)])), ((u 1), .inl (k 0, 10, .inl (fun _ => 0))), ((u 2), .inl (k 0, 10, .inl (fun _ => 0))), ((u 3), .inl (k 0, 60, .inl (fun _ => 0))), ((n 0), .inr (5, [.int 0, .int 0, .int 3, .int 8, .int 4, .int 4, .int 0, .int 0, .int 0, .int 0, .int 0, .ref (n 1), .ref (n 2), .ref (n 3), .ref (n 4), .ref (n 5)])), ((n 1), .inl (k 0, 10, .inl (fun _ => 0))), ((n 2), .inl (k 0, 10, .inl (fun _ => 0))), ((n 3), .inl (k 0, 60, .inl (fun _ => 0)))])) (va_Qi (fun rr (uu : Unit) => rr = if a.toInt = 0 then 0 else (-3)) (qu D (va_A [((t 0), .inr (6, [.ref (t 1), .int 0, .ref (n 0), .ref (v 0), .ref (t 2), .ref (t 3), .ref (t 4), .ref (t 5), .ref (d 0), .ref (t 6), .ref (t 7)])), ((t 1), .inr (4, [.ref (u 0), .int 0, .int (-1), .int 0, .ref (t 8), .int 0, .int 0, .int 0, .int 0, .int 0])), ((u 0), .inr (5, [.int 0, .int 0, .int 3, .int 8, .int 4, .int 4, .int 0, .int 0, .int 0, .int 0, .int 0, .ref (u 1), .ref (u 2), .ref (u 3), .ref (u 4), .ref (u 5)])), ((u 1), .inl (k 0, 10, .inl (fun _ => 0))), ((u 2), .inl (k 0, 10, .inl (fun _ => 0))), ((u 3), .inl (k 0, 60, .inl (fun _ => 0))), ((n 0), .inr (5, [.int 0, .int 0, .int 3, .int 8, .int 4, .int 4, .int 0, .int 0, .int 0, .int 0, .int 0, .ref (n 1), .ref (n 2), .ref (n 3), .ref (n 4), .ref (n 5)])), ((n 1), .inl (k 0, 10, .inl (fun _ => 0))), ((n 2), .inl (k 0, 10, .inl (fun _ => 0))), ((n 3), .inl (k 0, 60, .inl (fun _ => 0)))] sz) (fun uu : Unit => [])) (va_A [((t 0), .inr (6, [.ref (t 1), .int 0, .ref (n 0), .ref (v 0), .ref (t 2), .ref (t 3), .ref (t 4), .ref (t 5), .ref (d 0), .ref (t 6), .ref (t 7)])), ((t 1), .inr (4, [.ref (u 0), .int 0, .int (-1), .int 0, .ref (t 8), .int 0, .int 0, .int 0, .int 0, .int 0])), ((u 0), .inr (5, [.int 0, .int 0, .int 3, .int 8, .int 4, .int 4, .int 0, .int 0, .int 0, .int 0, .int 0, .ref (u 1), .ref (u 2), .ref (u 3), .ref (u 4), .ref (u 5)])), ((u 1), .inl (k 0, 10, .inl (fun _ => 0))), ((u 2), .inl (k 0, 10, .inl (fun _ => 0))), ((u 3), .inl (k 0, 60, .inl (fun _ => 0))), ((n 0), .inr (5, [.int 0, .int 0, .int 3, .int 8, .int 4, .int 4, .int 0, .int 0, .int 0, .int 0, .int 0, .ref (n 1), .ref (n 2), .ref (n 3), .ref (n 4), .ref (n 5)])), ((n 1), .inl (k 0, 10, .inl (fun _ => 0))), ((n 2), .inl (k 0, 10, .inl (fun _ => 0))), ((n 3), .inl (k 0, 60, .inl (fun _ => 0)))] sz)) 0 0 (va_A [((t 0), .inr (6, [.ref (t 1), .int 0, .ref (n 0), .ref (v 0), .ref (t 2), .ref (t 3), .ref (t 4), .ref (t 5), .ref (d 0), .ref (t 6), .ref (t 7)])), ((t 1), .inr (4, [.ref (u 0), .int 0, .int (-1), .int 0, .ref (t 8), .int 0, .int 0, .int 0, .int 0, .int 0])), ((u 0), .inr (5, [.int 0, .int 0, .int 3, .int 8, .int 4, .int 4, .int 0, .int 0, .int 0, .int 0, .int 0, .ref (u 1), .ref (u 2), .ref (u 3), .ref (u 4), .ref (u 5)])), ((u 1), .inl (k 0, 10, .inl (fun _ => 0))), ((u 2), .inl (k 0, 10, .inl (fun _ => 0))), ((u 3), .inl (k 0, 60, .inl (fun _ => 0))), ((n 0), .inr (5, [.int 0, .int 0, .int 3, .int 8, .int 4, .int 4, .int 0, .int 0, .int 0, .int 0, .int 0, .ref (n 1), .ref (n 2), .ref (n 3), .ref (n 4), .ref (n 5)])), ((n 1), .inl (k 0, 10, .inl (fun _ => 0))), ((n 2), .inl (k 0, 10, .inl (fun _ => 0))), ((n 3), .inl (k 0, 60, .inl (fun _ => 0)))] sz) := by
  refine Met.ofW (cc := cX7_row) (maxL := 2) (ret := (some .int)) (by decide) rfl ?_
  intro p e s m args below meth c s₁ B hml hv
  obtain ⟨rfl, hsz, hP, hK, hD0⟩ := hv
  have hx := B.exec
  have hb := B.bytes
  have hr := B.returns
  have hts : ∀ w ∈ wsL_law, w.before _ s = true := fun w h => atoms_spec (ws := Cond.code yX7_row cX7_row 2 (some .int) :: wsL_law) B.pre w (List.mem_cons_of_mem _ h)
  have hown : s.vm.findClass RX7 = some m.cls := findClass_of_methodNamed B.named
  have hlocks := B.notSynchronized
  subst hsz
  have hD := hD0.self (sz := s.heap.size)
  generalize hAe : va_A [((t 0), .inr (6, [.ref (t 1), .int 0, .ref (n 0), .ref (v 0), .ref (t 2), .ref (t 3), .ref (t 4), .ref (t 5), .ref (d 0), .ref (t 6), .ref (t 7)])), ((t 1), .inr (4, [.ref (u 0), .int 0, .int (-1), .int 0, .ref (t 8), .int 0, .int 0, .int 0, .int 0, .int 0])), ((u 0), .inr (5, [.int 0, .int 0, .int 3, .int 8, .int 4, .int 4, .int 0, .int 0, .int 0, .int 0, .int 0, .ref (u 1), .ref (u 2), .ref (u 3), .ref (u 4), .ref (u 5)])), ((u 1), .inl (k 0, 10, .inl (fun _ => 0))), ((u 2), .inl (k 0, 10, .inl (fun _ => 0))), ((u 3), .inl (k 0, 60, .inl (fun _ => 0))), ((n 0), .inr (5, [.int 0, .int 0, .int 3, .int 8, .int 4, .int 4, .int 0, .int 0, .int 0, .int 0, .int 0, .ref (n 1), .ref (n 2), .ref (n 3), .ref (n 4), .ref (n 5)])), ((n 1), .inl (k 0, 10, .inl (fun _ => 0))), ((n 2), .inl (k 0, 10, .inl (fun _ => 0))), ((n 3), .inl (k 0, 60, .inl (fun _ => 0)))] s.heap.size = A at hD ⊢
  have hA : ∀ q : Nat, s.heap.size ≤ q → A q := fun q h => by rw [← hAe]; exact Or.inr h
  have hS : va_S A s.heap s.heap [] := va_S.rf
  have hP : va_P D vwCl [((t 0), .inr (6, [.ref (t 1), .int 0, .ref (n 0), .ref (v 0), .ref (t 2), .ref (t 3), .ref (t 4), .ref (t 5), .ref (d 0), .ref (t 6), .ref (t 7)])), ((t 1), .inr (4, [.ref (u 0), .int 0, .int (-1), .int 0, .ref (t 8), .int 0, .int 0, .int 0, .int 0, .int 0])), ((u 0), .inr (5, [.int 0, .int 0, .int 3, .int 8, .int 4, .int 4, .int 0, .int 0, .int 0, .int 0, .int 0, .ref (u 1), .ref (u 2), .ref (u 3), .ref (u 4), .ref (u 5)])), ((u 1), .inl (k 0, 10, .inl (fun _ => 0))), ((u 2), .inl (k 0, 10, .inl (fun _ => 0))), ((u 3), .inl (k 0, 60, .inl (fun _ => 0))), ((n 0), .inr (5, [.int 0, .int 0, .int 3, .int 8, .int 4, .int 4, .int 0, .int 0, .int 0, .int 0, .int 0, .ref (n 1), .ref (n 2), .ref (n 3), .ref (n 4), .ref (n 5)])), ((n 1), .inl (k 0, 10, .inl (fun _ => 0))), ((n 2), .inl (k 0, 10, .inl (fun _ => 0))), ((n 3), .inl (k 0, 60, .inl (fun _ => 0)))] s.heap := hP
  have hl := lv_entry ([.ref (t 0), .int a]) (n := 2) (Nat.le_of_ble_eq_true rfl)
  rw [lg_entry_eq]
  generalize (lg_sl ([.ref (t 0), .int a]) ++ List.replicate (2 - (lg_sl ([.ref (t 0), .int a])).length) Slot.unset).toArray = ls at hl ⊢
  have hl : lv_has ls 2 [(0, .ref (t 0)), (1, .int a)] := hl
  refine lv_iload_n hx hb dX7_row_0 rfl (lv_at hl 1 rfl) ?_
  refine lv_if_lt (tgt := 15) hx hb dX7_row_1 (by decide) (fun c_1 => ?_) (fun c_1 => ?_)
  · have c_1 : a.toInt < 0 := ti_lt c_1
    refine lv_bipush (v := (-3)) hx hb dX7_row_15 (by decide) ?_
    have hP9 := hP.sub (ws' := []) [] rfl
    have hD9 := hD.sub (ws' := []) [] (by decide) rfl
    exact W.iret (v := (-3)) hx hb hr (fun t ht hW => ⟨⟨(-3), (), rfl, (by (repeat' split) <;> first | rfl | (exfalso; omega)), by rw [ht]; exact hP9, hD9⟩, hS.F ht⟩) hS.2.2 dX7_row_17
  · have c_1 : 0 ≤ a.toInt := ti_nlt c_1
    refine lv_iload_n hx hb dX7_row_4 rfl (lv_at hl 1 rfl) ?_
    refine lv_aload_n hx hb dX7_row_5 rfl (lv_at hl 0 rfl) ?_
    refine va_get (D := D) (ci := 6) (v := .ref (t 1)) (C := RX7) (T := TX7) (N := 11) hx hb hts inlX7 hown hK hP 0 rfl rfl 0 (by decide) (hts _ mw_16) (fun _ h9 => h9) rfl dX7_row_6 ?_
    refine va_get (D := D) (ci := 4) (v := .int 0) (C := RX5) (T := TX5) (N := 10) hx hb hts inlX5 hown hK hP 1 rfl rfl 3 (by decide) (hts _ mw_115) (fun _ h9 => h9) rfl dX7_row_9 ?_
    refine lv_icmp_le (tgt := 18) hx hb dX7_row_12 (by decide) (fun c_2 => ?_) (fun c_2 => ?_)
    · have c_2 : a.toInt ≤ 0 := ti_le c_2
      have qc_2 : a = 0 := ti_of (show a.toInt = 0 from by omega)
      refine lv_aload_n hx hb dX7_row_18 rfl (lv_at hl 0 rfl) ?_
      refine va_get (D := D) (ci := 6) (v := .ref (t 1)) (C := RX7) (T := TX7) (N := 11) hx hb hts inlX7 hown hK hP 0 rfl rfl 0 (by decide) (hts _ mw_16) (fun _ h9 => h9) rfl dX7_row_19 ?_
      refine lv_iload_n hx hb dX7_row_22 rfl (lv_at hl 1 rfl) ?_
      refine lv_ni (v := 0) (qc_2) ?_
      refine kV_uv (q0 := 0) (As := [.int 0]) (rest := []) (wc := [((t 1), .inr (4, [.ref (u 0), .int 0, .int (-1), .int 0, .ref (t 8), .int 0, .int 0, .int 0, .int 0, .int 0])), ((u 0), .inr (5, [.int 0, .int 0, .int 3, .int 8, .int 4, .int 4, .int 0, .int 0, .int 0, .int 0, .int 0, .ref (u 1), .ref (u 2), .ref (u 3), .ref (u 4), .ref (u 5)])), ((u 1), .inl (k 0, 10, .inl (fun _ => 0))), ((u 2), .inl (k 0, 10, .inl (fun _ => 0)))]) (wr := [((t 0), .inr (6, [.ref (t 1), .int 0, .ref (n 0), .ref (v 0), .ref (t 2), .ref (t 3), .ref (t 4), .ref (t 5), .ref (d 0), .ref (t 6), .ref (t 7)])), ((u 3), .inl (k 0, 60, .inl (fun _ => 0))), ((n 0), .inr (5, [.int 0, .int 0, .int 3, .int 8, .int 4, .int 4, .int 0, .int 0, .int 0, .int 0, .int 0, .ref (n 1), .ref (n 2), .ref (n 3), .ref (n 4), .ref (n 5)])), ((n 1), .inl (k 0, 10, .inl (fun _ => 0))), ((n 2), .inl (k 0, 10, .inl (fun _ => 0))), ((n 3), .inl (k 0, 60, .inl (fun _ => 0)))]) ⟨hx, hb, hml, hown, hts⟩ (c_R_read0 l D k _ _ _) (gV mw_136 mw_137 mw_138 mw_15 mw_139) hd_yX5_read rfl rfl ⟨Nat.le_of_ble_eq_true rfl, Nat.le_of_ble_eq_true rfl⟩ hK hP hD hS hA [1, 2, 3, 4] [0, 5, 6, 7, 8, 9] rfl rfl (by decide) (by decide) (by decide) rfl rfl rfl rfl hl.1 rfl (Nat.le_of_ble_eq_true rfl) dX7_row_23 ⟨Nat.le_of_ble_eq_true rfl, Nat.le_of_ble_eq_true rfl⟩ (fun u_4 H locs hw hP hD hS => ?_)
      have hP : va_P D vwCl [((t 0), .inr (6, [.ref (t 1), .int 0, .ref (n 0), .ref (v 0), .ref (t 2), .ref (t 3), .ref (t 4), .ref (t 5), .ref (d 0), .ref (t 6), .ref (t 7)])), ((u 3), .inl (k 0, 60, .inl (fun _ => 0))), ((n 0), .inr (5, [.int 0, .int 0, .int 3, .int 8, .int 4, .int 4, .int 0, .int 0, .int 0, .int 0, .int 0, .ref (n 1), .ref (n 2), .ref (n 3), .ref (n 4), .ref (n 5)])), ((n 1), .inl (k 0, 10, .inl (fun _ => 0))), ((n 2), .inl (k 0, 10, .inl (fun _ => 0))), ((n 3), .inl (k 0, 60, .inl (fun _ => 0))), ((t 1), .inr (4, [.ref (u 0), .int 0, .int (-1), .int 0, .ref (t 8), .int 0, .int 0, .int 0, .int 1, .int 0])), ((u 0), .inr (5, [.int 0, .int 0, .int 3, .int 8, .int 4, .int 4, .int 0, .int 0, .int 0, .int 0, .int 0, .ref (u 1), .ref (u 2), .ref (u 3), .ref (u 4), .ref (u 5)])), ((u 1), .inl (k 0, 10, .inl (fun _ => 0))), ((u 2), .inl (k 0, 10, .inl (fun _ => 0)))] H := hP
      have hD : va_D A [((t 0), .inr (6, [.ref (t 1), .int 0, .ref (n 0), .ref (v 0), .ref (t 2), .ref (t 3), .ref (t 4), .ref (t 5), .ref (d 0), .ref (t 6), .ref (t 7)])), ((u 3), .inl (k 0, 60, .inl (fun _ => 0))), ((n 0), .inr (5, [.int 0, .int 0, .int 3, .int 8, .int 4, .int 4, .int 0, .int 0, .int 0, .int 0, .int 0, .ref (n 1), .ref (n 2), .ref (n 3), .ref (n 4), .ref (n 5)])), ((n 1), .inl (k 0, 10, .inl (fun _ => 0))), ((n 2), .inl (k 0, 10, .inl (fun _ => 0))), ((n 3), .inl (k 0, 60, .inl (fun _ => 0))), ((t 1), .inr (4, [.ref (u 0), .int 0, .int (-1), .int 0, .ref (t 8), .int 0, .int 0, .int 0, .int 1, .int 0])), ((u 0), .inr (5, [.int 0, .int 0, .int 3, .int 8, .int 4, .int 4, .int 0, .int 0, .int 0, .int 0, .int 0, .ref (u 1), .ref (u 2), .ref (u 3), .ref (u 4), .ref (u 5)])), ((u 1), .inl (k 0, 10, .inl (fun _ => 0))), ((u 2), .inl (k 0, 10, .inl (fun _ => 0)))] := hD
      refine lv_aload_n hx hb dX7_row_26 rfl (lv_at hl 0 rfl) ?_
      refine va_get (D := D) (ci := 6) (v := .ref (t 1)) (C := RX7) (T := TX7) (N := 11) hx hb hts inlX7 hown hK hP 0 rfl rfl 0 (by decide) (hts _ mw_16) (fun _ h9 => h9) rfl dX7_row_27 ?_
      refine va_get (D := D) (ci := 4) (v := .int 0) (C := RX5) (T := TX5) (N := 10) hx hb hts inlX5 hown hK hP 6 rfl rfl 1 (by decide) (hts _ mw_131) (fun _ h9 => h9) rfl dX7_row_30 ?_
      refine lv_if_eq (tgt := 47) hx hb dX7_row_33 (by decide) (fun _ => ?_) (fun c9 => absurd c9 (by decide))
      refine lv_aload_n hx hb dX7_row_47 rfl (lv_at hl 0 rfl) ?_
      refine lv_dup hx hb dX7_row_48 rfl ?_
      refine va_get (D := D) (ci := 6) (v := .int 0) (C := RX7) (T := TX7) (N := 11) hx hb hts inlX7 hown hK hP 0 rfl rfl 1 (by decide) (hts _ mw_132) (fun _ h9 => h9) rfl dX7_row_49 ?_
      refine lv_iconst (v := 1) hx hb dX7_row_52 (by decide) ?_
      refine lv_iadd hx hb dX7_row_53 ?_
      refine lv_ni (v := 1) (by decide) ?_
      refine va_put (D := D) (ci := 6) (v := .int 1) (ty := .int) (C := RX7) (T := TX7) (N := 11) hx hb hts inlX7 tyX7 tyX7_ok nmX7 hown hK hP hD hS 0 rfl rfl 1 (by decide) (hts _ mw_132) (fun _ h9 => h9) rfl (by decide +kernel) rfl rfl (Nat.le_of_ble_eq_true rfl) dX7_row_54 (fun H locs hP hD hS => ?_)
      have hP : va_P D vwCl [((t 0), .inr (6, [.ref (t 1), .int 1, .ref (n 0), .ref (v 0), .ref (t 2), .ref (t 3), .ref (t 4), .ref (t 5), .ref (d 0), .ref (t 6), .ref (t 7)])), ((u 3), .inl (k 0, 60, .inl (fun _ => 0))), ((n 0), .inr (5, [.int 0, .int 0, .int 3, .int 8, .int 4, .int 4, .int 0, .int 0, .int 0, .int 0, .int 0, .ref (n 1), .ref (n 2), .ref (n 3), .ref (n 4), .ref (n 5)])), ((n 1), .inl (k 0, 10, .inl (fun _ => 0))), ((n 2), .inl (k 0, 10, .inl (fun _ => 0))), ((n 3), .inl (k 0, 60, .inl (fun _ => 0))), ((t 1), .inr (4, [.ref (u 0), .int 0, .int (-1), .int 0, .ref (t 8), .int 0, .int 0, .int 0, .int 1, .int 0])), ((u 0), .inr (5, [.int 0, .int 0, .int 3, .int 8, .int 4, .int 4, .int 0, .int 0, .int 0, .int 0, .int 0, .ref (u 1), .ref (u 2), .ref (u 3), .ref (u 4), .ref (u 5)])), ((u 1), .inl (k 0, 10, .inl (fun _ => 0))), ((u 2), .inl (k 0, 10, .inl (fun _ => 0)))] H := hP
      have hD : va_D A [((t 0), .inr (6, [.ref (t 1), .int 1, .ref (n 0), .ref (v 0), .ref (t 2), .ref (t 3), .ref (t 4), .ref (t 5), .ref (d 0), .ref (t 6), .ref (t 7)])), ((u 3), .inl (k 0, 60, .inl (fun _ => 0))), ((n 0), .inr (5, [.int 0, .int 0, .int 3, .int 8, .int 4, .int 4, .int 0, .int 0, .int 0, .int 0, .int 0, .ref (n 1), .ref (n 2), .ref (n 3), .ref (n 4), .ref (n 5)])), ((n 1), .inl (k 0, 10, .inl (fun _ => 0))), ((n 2), .inl (k 0, 10, .inl (fun _ => 0))), ((n 3), .inl (k 0, 60, .inl (fun _ => 0))), ((t 1), .inr (4, [.ref (u 0), .int 0, .int (-1), .int 0, .ref (t 8), .int 0, .int 0, .int 0, .int 1, .int 0])), ((u 0), .inr (5, [.int 0, .int 0, .int 3, .int 8, .int 4, .int 4, .int 0, .int 0, .int 0, .int 0, .int 0, .ref (u 1), .ref (u 2), .ref (u 3), .ref (u 4), .ref (u 5)])), ((u 1), .inl (k 0, 10, .inl (fun _ => 0))), ((u 2), .inl (k 0, 10, .inl (fun _ => 0)))] := hD
      refine lv_aload_n hx hb dX7_row_57 rfl (lv_at hl 0 rfl) ?_
      refine va_get (D := D) (ci := 6) (v := .ref (n 0)) (C := RX7) (T := TX7) (N := 11) hx hb hts inlX7 hown hK hP 0 rfl rfl 2 (by decide) (hts _ mw_20) (fun _ h9 => h9) rfl dX7_row_58 ?_
      refine lv_aload_n hx hb dX7_row_61 rfl (lv_at hl 0 rfl) ?_
      refine va_get (D := D) (ci := 6) (v := .ref (t 1)) (C := RX7) (T := TX7) (N := 11) hx hb hts inlX7 hown hK hP 0 rfl rfl 0 (by decide) (hts _ mw_16) (fun _ h9 => h9) rfl dX7_row_62 ?_
      refine va_get (D := D) (ci := 4) (v := .ref (u 0)) (C := RX5) (T := TX5) (N := 10) hx hb hts inlX5 hown hK hP 6 rfl rfl 0 (by decide) (hts _ mw_133) (fun _ h9 => h9) rfl dX7_row_65 ?_
      refine kV_uv (q0 := 0) (As := [.ref (u 0)]) (rest := []) (wc := [((n 0), .inr (5, [.int 0, .int 0, .int 3, .int 8, .int 4, .int 4, .int 0, .int 0, .int 0, .int 0, .int 0, .ref (n 1), .ref (n 2), .ref (n 3), .ref (n 4), .ref (n 5)])), ((n 1), .inl (k 0, 10, .inl (fun _ => 0))), ((n 2), .inl (k 0, 10, .inl (fun _ => 0))), ((n 3), .inl (k 0, 60, .inl (fun _ => 0))), ((u 0), .inr (5, [.int 0, .int 0, .int 3, .int 8, .int 4, .int 4, .int 0, .int 0, .int 0, .int 0, .int 0, .ref (u 1), .ref (u 2), .ref (u 3), .ref (u 4), .ref (u 5)])), ((u 1), .inl (k 0, 10, .inl (fun _ => 0))), ((u 2), .inl (k 0, 10, .inl (fun _ => 0))), ((u 3), .inl (k 0, 60, .inl (fun _ => 0)))]) (wr := [((t 0), .inr (6, [.ref (t 1), .int 1, .ref (n 0), .ref (v 0), .ref (t 2), .ref (t 3), .ref (t 4), .ref (t 5), .ref (d 0), .ref (t 6), .ref (t 7)])), ((t 1), .inr (4, [.ref (u 0), .int 0, .int (-1), .int 0, .ref (t 8), .int 0, .int 0, .int 0, .int 1, .int 0]))]) ⟨hx, hb, hml, hown, hts⟩ (c_W_copyFrom l D k n u 0 0 _) (gV mw_275 mw_276 mw_277 mw_19 mw_278) hd_yX6_copyFrom rfl rfl ⟨Nat.le_of_ble_eq_true rfl, Nat.le_of_ble_eq_true rfl⟩ hK hP hD hS hA [2, 3, 4, 5, 7, 8, 9, 1] [0, 6] rfl rfl (by decide) (by decide) (by decide) rfl rfl rfl rfl hl.1 rfl (Nat.le_of_ble_eq_true rfl) dX7_row_68 ⟨Nat.le_of_ble_eq_true rfl, Nat.le_of_ble_eq_true rfl⟩ (fun u_6 H locs hw hP hD hS => ?_)
      have hP : va_P D vwCl [((t 0), .inr (6, [.ref (t 1), .int 1, .ref (n 0), .ref (v 0), .ref (t 2), .ref (t 3), .ref (t 4), .ref (t 5), .ref (d 0), .ref (t 6), .ref (t 7)])), ((t 1), .inr (4, [.ref (u 0), .int 0, .int (-1), .int 0, .ref (t 8), .int 0, .int 0, .int 0, .int 1, .int 0])), ((n 0), .inr (5, [.int 0, .int 0, .int 3, .int 8, .int 4, .int 4, .int 0, .int 0, .int 0, .int 0, .int 0, .ref (n 1), .ref (n 2), .ref (n 3), .ref (n 4), .ref (n 5)])), ((n 1), .inl (k 0, 10, .inl (fun _ => 0))), ((n 2), .inl (k 0, 10, .inl (fun _ => 0))), ((n 3), .inl (k 0, 60, .inl (fun _ => 0))), ((u 0), .inr (5, [.int 0, .int 0, .int 3, .int 8, .int 4, .int 4, .int 0, .int 0, .int 0, .int 0, .int 0, .ref (u 1), .ref (u 2), .ref (u 3), .ref (u 4), .ref (u 5)])), ((u 1), .inl (k 0, 10, .inl (fun _ => 0))), ((u 2), .inl (k 0, 10, .inl (fun _ => 0))), ((u 3), .inl (k 0, 60, .inl (fun _ => 0)))] H := hP
      have hD : va_D A [((t 0), .inr (6, [.ref (t 1), .int 1, .ref (n 0), .ref (v 0), .ref (t 2), .ref (t 3), .ref (t 4), .ref (t 5), .ref (d 0), .ref (t 6), .ref (t 7)])), ((t 1), .inr (4, [.ref (u 0), .int 0, .int (-1), .int 0, .ref (t 8), .int 0, .int 0, .int 0, .int 1, .int 0])), ((n 0), .inr (5, [.int 0, .int 0, .int 3, .int 8, .int 4, .int 4, .int 0, .int 0, .int 0, .int 0, .int 0, .ref (n 1), .ref (n 2), .ref (n 3), .ref (n 4), .ref (n 5)])), ((n 1), .inl (k 0, 10, .inl (fun _ => 0))), ((n 2), .inl (k 0, 10, .inl (fun _ => 0))), ((n 3), .inl (k 0, 60, .inl (fun _ => 0))), ((u 0), .inr (5, [.int 0, .int 0, .int 3, .int 8, .int 4, .int 4, .int 0, .int 0, .int 0, .int 0, .int 0, .ref (u 1), .ref (u 2), .ref (u 3), .ref (u 4), .ref (u 5)])), ((u 1), .inl (k 0, 10, .inl (fun _ => 0))), ((u 2), .inl (k 0, 10, .inl (fun _ => 0))), ((u 3), .inl (k 0, 60, .inl (fun _ => 0)))] := hD
      refine lv_aload_n hx hb dX7_row_71 rfl (lv_at hl 0 rfl) ?_
      refine va_get (D := D) (ci := 6) (v := .ref (n 0)) (C := RX7) (T := TX7) (N := 11) hx hb hts inlX7 hown hK hP 0 rfl rfl 2 (by decide) (hts _ mw_20) (fun _ h9 => h9) rfl dX7_row_72 ?_
      refine lv_aload_n hx hb dX7_row_75 rfl (lv_at hl 0 rfl) ?_
      refine va_get (D := D) (ci := 6) (v := .int 1) (C := RX7) (T := TX7) (N := 11) hx hb hts inlX7 hown hK hP 0 rfl rfl 1 (by decide) (hts _ mw_132) (fun _ h9 => h9) rfl dX7_row_76 ?_
      refine va_put (D := D) (ci := 5) (v := .int 1) (ty := .int) (C := RX6) (T := TX6) (N := 16) hx hb hts inlX6 tyX6 tyX6_ok nmX6 hown hK hP hD hS 2 rfl rfl 10 (by decide) (hts _ mw_134) (fun _ h9 => h9) rfl (by decide +kernel) rfl rfl (Nat.le_of_ble_eq_true rfl) dX7_row_79 (fun H locs hP hD hS => ?_)
      have hP : va_P D vwCl [((t 0), .inr (6, [.ref (t 1), .int 1, .ref (n 0), .ref (v 0), .ref (t 2), .ref (t 3), .ref (t 4), .ref (t 5), .ref (d 0), .ref (t 6), .ref (t 7)])), ((t 1), .inr (4, [.ref (u 0), .int 0, .int (-1), .int 0, .ref (t 8), .int 0, .int 0, .int 0, .int 1, .int 0])), ((n 0), .inr (5, [.int 0, .int 0, .int 3, .int 8, .int 4, .int 4, .int 0, .int 0, .int 0, .int 0, .int 1, .ref (n 1), .ref (n 2), .ref (n 3), .ref (n 4), .ref (n 5)])), ((n 1), .inl (k 0, 10, .inl (fun _ => 0))), ((n 2), .inl (k 0, 10, .inl (fun _ => 0))), ((n 3), .inl (k 0, 60, .inl (fun _ => 0))), ((u 0), .inr (5, [.int 0, .int 0, .int 3, .int 8, .int 4, .int 4, .int 0, .int 0, .int 0, .int 0, .int 0, .ref (u 1), .ref (u 2), .ref (u 3), .ref (u 4), .ref (u 5)])), ((u 1), .inl (k 0, 10, .inl (fun _ => 0))), ((u 2), .inl (k 0, 10, .inl (fun _ => 0))), ((u 3), .inl (k 0, 60, .inl (fun _ => 0)))] H := hP
      have hD : va_D A [((t 0), .inr (6, [.ref (t 1), .int 1, .ref (n 0), .ref (v 0), .ref (t 2), .ref (t 3), .ref (t 4), .ref (t 5), .ref (d 0), .ref (t 6), .ref (t 7)])), ((t 1), .inr (4, [.ref (u 0), .int 0, .int (-1), .int 0, .ref (t 8), .int 0, .int 0, .int 0, .int 1, .int 0])), ((n 0), .inr (5, [.int 0, .int 0, .int 3, .int 8, .int 4, .int 4, .int 0, .int 0, .int 0, .int 0, .int 1, .ref (n 1), .ref (n 2), .ref (n 3), .ref (n 4), .ref (n 5)])), ((n 1), .inl (k 0, 10, .inl (fun _ => 0))), ((n 2), .inl (k 0, 10, .inl (fun _ => 0))), ((n 3), .inl (k 0, 60, .inl (fun _ => 0))), ((u 0), .inr (5, [.int 0, .int 0, .int 3, .int 8, .int 4, .int 4, .int 0, .int 0, .int 0, .int 0, .int 0, .ref (u 1), .ref (u 2), .ref (u 3), .ref (u 4), .ref (u 5)])), ((u 1), .inl (k 0, 10, .inl (fun _ => 0))), ((u 2), .inl (k 0, 10, .inl (fun _ => 0))), ((u 3), .inl (k 0, 60, .inl (fun _ => 0)))] := hD
      refine lv_aload_n hx hb dX7_row_82 rfl (lv_at hl 0 rfl) ?_
      refine va_get (D := D) (ci := 6) (v := .ref (n 0)) (C := RX7) (T := TX7) (N := 11) hx hb hts inlX7 hown hK hP 0 rfl rfl 2 (by decide) (hts _ mw_20) (fun _ h9 => h9) rfl dX7_row_83 ?_
      refine va_get (D := D) (ci := 5) (v := .int 0) (C := RX6) (T := TX6) (N := 16) hx hb hts inlX6 hown hK hP 2 rfl rfl 9 (by decide) (hts _ mw_135) (fun _ h9 => h9) rfl dX7_row_86 ?_
      have hP9 := hP.sub (ws' := []) [] rfl
      have hD9 := hD.sub (ws' := []) [] (by decide) rfl
      exact W.iret (v := 0) hx hb hr (fun t ht hW => ⟨⟨0, (), rfl, (by (repeat' split) <;> first | rfl | (exfalso; omega)), by rw [ht]; exact hP9, hD9⟩, hS.F ht⟩) hS.2.2 dX7_row_89
    · have c_2 : 0 < a.toInt := ti_nle c_2
      refine lv_bipush (v := (-3)) hx hb dX7_row_15 (by decide) ?_
      have hP9 := hP.sub (ws' := []) [] rfl
      have hD9 := hD.sub (ws' := []) [] (by decide) rfl
      exact W.iret (v := (-3)) hx hb hr (fun t ht hW => ⟨⟨(-3), (), rfl, (by (repeat' split) <;> first | rfl | (exfalso; omega)), by rw [ht]; exact hP9, hD9⟩, hS.F ht⟩) hS.2.2 dX7_row_17
set_option maxHeartbeats 4000000 in
set_option maxRecDepth 100000 in
theorem c_T_fault (l : Launch) (D : va_G) (k : Nat → ClassId) (t : Nat → Nat) (n : Nat → Nat) (v : Nat → Nat) (d : Nat → Nat) (u : Nat → Nat) (a : Int32) : Met l yX7_fault (Cond.code yX7_fault cX7_fault 2 (some .int) :: wsL_law) ({ frames := 0, cells := 0, slots := 0, locals := 0 } : Room) (va_Pc [.ref (t 0), .int a] (pr D k [((t 0), .inr (6, [.ref (t 1), .int 0, .ref (n 0), .ref (v 0), .ref (t 2), .ref (t 3), .ref (t 4), .ref (t 5), .ref (d 0), .ref (t 6), .ref (t 7)])), ((t 1), .inr (4, [.ref (u 0), .int 0, .int (-1), .int 0, .ref (t 8), .int 0, .int 0, .int 0, .int 0, .int 0]))])) (vp_Si (fun rr => rr = if a.toInt = 0 then 0 else (-1))) 0 0 (fun _ => False) := by
  refine Met.ofW (cc := cX7_fault) (maxL := 2) (ret := (some .int)) (by decide) rfl ?_
  intro p e s m args below meth c s₁ B hml hv
  obtain ⟨rfl, hP, hK⟩ := hv
  have hx := B.exec
  have hb := B.bytes
  have hr := B.returns
  have hts : ∀ w ∈ wsL_law, w.before _ s = true := fun w h => atoms_spec (ws := Cond.code yX7_fault cX7_fault 2 (some .int) :: wsL_law) B.pre w (List.mem_cons_of_mem _ h)
  have hown : s.vm.findClass RX7 = some m.cls := findClass_of_methodNamed B.named
  have hlocks := B.notSynchronized
  have hP : va_P D vwCl [((t 0), .inr (6, [.ref (t 1), .int 0, .ref (n 0), .ref (v 0), .ref (t 2), .ref (t 3), .ref (t 4), .ref (t 5), .ref (d 0), .ref (t 6), .ref (t 7)])), ((t 1), .inr (4, [.ref (u 0), .int 0, .int (-1), .int 0, .ref (t 8), .int 0, .int 0, .int 0, .int 0, .int 0]))] s.heap := hP
  have hl := lv_entry ([.ref (t 0), .int a]) (n := 2) (Nat.le_of_ble_eq_true rfl)
  rw [lg_entry_eq]
  generalize (lg_sl ([.ref (t 0), .int a]) ++ List.replicate (2 - (lg_sl ([.ref (t 0), .int a])).length) Slot.unset).toArray = ls at hl ⊢
  have hl : lv_has ls 2 [(0, .ref (t 0)), (1, .int a)] := hl
  refine lv_iload_n hx hb dX7_fault_0 rfl (lv_at hl 1 rfl) ?_
  refine lv_if_ne (tgt := 12) hx hb dX7_fault_1 (by decide) (fun c_1 => ?_) (fun c_1 => ?_)
  · have c_1 : a.toInt ≠ 0 := ti_ne c_1
    refine lv_iload_n hx hb dX7_fault_12 rfl (lv_at hl 1 rfl) ?_
    refine lv_iconst (v := 1) hx hb dX7_fault_13 (by decide) ?_
    refine lv_icmp_ne (tgt := 27) hx hb dX7_fault_14 (by decide) (fun c_2 => ?_) (fun c_2 => ?_)
    · have c_2 : a.toInt ≠ 1 := ti_ne c_2
      refine lv_iconst (v := (-1)) hx hb dX7_fault_27 (by decide) ?_
      exact W.iret (v := (-1)) hx hb hr (fun t ht hW => ⟨(-1), rfl, (by (repeat' split) <;> first | rfl | (exfalso; omega)), ht⟩) (fun q h => by cases h) dX7_fault_28
    · have c_2 : a.toInt = 1 := ti_eq c_2
      have qc_2 : a = 1 := ti_of (show a.toInt = 1 from by omega)
      refine lv_aload_n hx hb dX7_fault_17 rfl (lv_at hl 0 rfl) ?_
      refine va_get (D := D) (ci := 6) (v := .ref (t 1)) (C := RX7) (T := TX7) (N := 11) hx hb hts inlX7 hown hK hP 0 rfl rfl 0 (by decide) (hts _ mw_16) (fun _ h9 => h9) rfl dX7_fault_18 ?_
      refine va_get (D := D) (ci := 4) (v := .int (-1)) (C := RX5) (T := TX5) (N := 10) hx hb hts inlX5 hown hK hP 1 rfl rfl 2 (by decide) (hts _ mw_351) (fun _ h9 => h9) rfl dX7_fault_21 ?_
      refine lv_goto (tgt := 28) hx hb dX7_fault_24 (by decide) ?_
      exact W.iret (v := (-1)) hx hb hr (fun t ht hW => ⟨(-1), rfl, (by (repeat' split) <;> first | rfl | (exfalso; omega)), ht⟩) (fun q h => by cases h) dX7_fault_28
  · have c_1 : a.toInt = 0 := ti_eq c_1
    have qc_1 : a = 0 := ti_of (show a.toInt = 0 from by omega)
    refine lv_aload_n hx hb dX7_fault_4 rfl (lv_at hl 0 rfl) ?_
    refine va_get (D := D) (ci := 6) (v := .ref (t 1)) (C := RX7) (T := TX7) (N := 11) hx hb hts inlX7 hown hK hP 0 rfl rfl 0 (by decide) (hts _ mw_16) (fun _ h9 => h9) rfl dX7_fault_5 ?_
    refine va_get (D := D) (ci := 4) (v := .int 0) (C := RX5) (T := TX5) (N := 10) hx hb hts inlX5 hown hK hP 1 rfl rfl 1 (by decide) (hts _ mw_131) (fun _ h9 => h9) rfl dX7_fault_8 ?_
    exact W.iret (v := 0) hx hb hr (fun t ht hW => ⟨0, rfl, (by (repeat' split) <;> first | rfl | (exfalso; omega)), ht⟩) (fun q h => by cases h) dX7_fault_11
set_option maxHeartbeats 4000000 in
set_option maxRecDepth 100000 in
theorem c_T_roof (l : Launch) (D : va_G) (k : Nat → ClassId) (t : Nat → Nat) (n : Nat → Nat) (v : Nat → Nat) (d : Nat → Nat) (a : Int32) (x : Int32) : Met l yX7_roof (Cond.code yX7_roof cX7_roof 3 (some .int) :: wsL_law) ({ frames := 1, cells := 0, slots := 0, locals := 60 } : Room) (va_Pc [.ref (t 0), .int a, .int x] (pr D k [((t 0), .inr (6, [.ref (t 1), .int 0, .ref (n 0), .ref (v 0), .ref (t 2), .ref (t 3), .ref (t 4), .ref (t 5), .ref (d 0), .ref (t 6), .ref (t 7)])), ((n 0), .inr (5, [.int 0, .int 0, .int 3, .int 8, .int 4, .int 4, .int 0, .int 0, .int 0, .int 0, .int 0, .ref (n 1), .ref (n 2), .ref (n 3), .ref (n 4), .ref (n 5)]))])) (vp_Si (fun rr => rr = (-2))) 0 0 (fun _ => False) := by
  refine Met.ofW (cc := cX7_roof) (maxL := 3) (ret := (some .int)) (by decide) rfl ?_
  intro p e s m args below meth c s₁ B hml hv
  obtain ⟨rfl, hP, hK⟩ := hv
  have hx := B.exec
  have hb := B.bytes
  have hr := B.returns
  have hts : ∀ w ∈ wsL_law, w.before _ s = true := fun w h => atoms_spec (ws := Cond.code yX7_roof cX7_roof 3 (some .int) :: wsL_law) B.pre w (List.mem_cons_of_mem _ h)
  have hown : s.vm.findClass RX7 = some m.cls := findClass_of_methodNamed B.named
  have hlocks := B.notSynchronized
  have hP : va_P D vwCl [((t 0), .inr (6, [.ref (t 1), .int 0, .ref (n 0), .ref (v 0), .ref (t 2), .ref (t 3), .ref (t 4), .ref (t 5), .ref (d 0), .ref (t 6), .ref (t 7)])), ((n 0), .inr (5, [.int 0, .int 0, .int 3, .int 8, .int 4, .int 4, .int 0, .int 0, .int 0, .int 0, .int 0, .ref (n 1), .ref (n 2), .ref (n 3), .ref (n 4), .ref (n 5)]))] s.heap := hP
  have hl := lv_entry ([.ref (t 0), .int a, .int x]) (n := 3) (Nat.le_of_ble_eq_true rfl)
  rw [lg_entry_eq]
  generalize (lg_sl ([.ref (t 0), .int a, .int x]) ++ List.replicate (3 - (lg_sl ([.ref (t 0), .int a, .int x])).length) Slot.unset).toArray = ls at hl ⊢
  have hl : lv_has ls 3 [(0, .ref (t 0)), (1, .int a), (2, .int x)] := hl
  refine lv_aload_n hx hb dX7_roof_0 rfl (lv_at hl 0 rfl) ?_
  refine va_get (D := D) (ci := 6) (v := .ref (n 0)) (C := RX7) (T := TX7) (N := 11) hx hb hts inlX7 hown hK hP 0 rfl rfl 2 (by decide) (hts _ mw_20) (fun _ h9 => h9) rfl dX7_roof_1 ?_
  refine lv_iload_n hx hb dX7_roof_4 rfl (lv_at hl 1 rfl) ?_
  refine kV_i (q0 := 0) (As := [.int a]) (rest := []) (cs := [((n 0), .inr (5, [.int 0, .int 0, .int 3, .int 8, .int 4, .int 4, .int 0, .int 0, .int 0, .int 0, .int 0, .ref (n 1), .ref (n 2), .ref (n 3), .ref (n 4), .ref (n 5)]))]) ⟨hx, hb, hml, hown, hts⟩ (c_W_isRoof l D k n 0 a) (gV mw_364 mw_365 mw_366 mw_19 mw_367) hd_yX6_isRoof rfl rfl ⟨Nat.le_of_ble_eq_true rfl, Nat.le_of_ble_eq_true rfl⟩ hK (hP.sub (ws' := [((n 0), .inr (5, [.int 0, .int 0, .int 3, .int 8, .int 4, .int 4, .int 0, .int 0, .int 0, .int 0, .int 0, .ref (n 1), .ref (n 2), .ref (n 3), .ref (n 4), .ref (n 5)]))]) [1] rfl) rfl rfl rfl rfl hl.1 rfl (Nat.le_of_ble_eq_true rfl) dX7_roof_5 ⟨Nat.le_of_ble_eq_true rfl, Nat.le_of_ble_eq_true rfl⟩ (fun r_1 hr_1 => ?_)
  obtain rfl : r_1 = 0 := hr_1
  refine lv_if_ne (tgt := 14) hx hb dX7_roof_8 (by decide) (fun c9 => absurd c9 (by decide)) (fun _ => ?_)
  refine lv_bipush (v := (-2)) hx hb dX7_roof_11 (by decide) ?_
  exact W.iret (v := (-2)) hx hb hr (fun t ht hW => ⟨(-2), rfl, rfl, ht⟩) (fun q h => by cases h) dX7_roof_13
set_option maxHeartbeats 4000000 in
set_option maxRecDepth 100000 in
theorem c_T_layer (l : Launch) (D : va_G) (k : Nat → ClassId) (t : Nat → Nat) (n : Nat → Nat) (v : Nat → Nat) (d : Nat → Nat) (a : Int32) (x : Int32) (z : Int32) : Met l yX7_layer (Cond.code yX7_layer cX7_layer 5 (some .int) :: wsL_law) ({ frames := 1, cells := 0, slots := 0, locals := 60 } : Room) (va_Pc [.ref (t 0), .int a, .int x, .int z] (pr D k [((t 0), .inr (6, [.ref (t 1), .int 0, .ref (n 0), .ref (v 0), .ref (t 2), .ref (t 3), .ref (t 4), .ref (t 5), .ref (d 0), .ref (t 6), .ref (t 7)])), ((n 0), .inr (5, [.int 0, .int 0, .int 3, .int 8, .int 4, .int 4, .int 0, .int 0, .int 0, .int 0, .int 0, .ref (n 1), .ref (n 2), .ref (n 3), .ref (n 4), .ref (n 5)]))])) (vp_Si (fun rr => rr = (-2))) 0 0 (fun _ => False) := by
  refine Met.ofW (cc := cX7_layer) (maxL := 5) (ret := (some .int)) (by decide) rfl ?_
  intro p e s m args below meth c s₁ B hml hv
  obtain ⟨rfl, hP, hK⟩ := hv
  have hx := B.exec
  have hb := B.bytes
  have hr := B.returns
  have hts : ∀ w ∈ wsL_law, w.before _ s = true := fun w h => atoms_spec (ws := Cond.code yX7_layer cX7_layer 5 (some .int) :: wsL_law) B.pre w (List.mem_cons_of_mem _ h)
  have hown : s.vm.findClass RX7 = some m.cls := findClass_of_methodNamed B.named
  have hlocks := B.notSynchronized
  have hP : va_P D vwCl [((t 0), .inr (6, [.ref (t 1), .int 0, .ref (n 0), .ref (v 0), .ref (t 2), .ref (t 3), .ref (t 4), .ref (t 5), .ref (d 0), .ref (t 6), .ref (t 7)])), ((n 0), .inr (5, [.int 0, .int 0, .int 3, .int 8, .int 4, .int 4, .int 0, .int 0, .int 0, .int 0, .int 0, .ref (n 1), .ref (n 2), .ref (n 3), .ref (n 4), .ref (n 5)]))] s.heap := hP
  have hl := lv_entry ([.ref (t 0), .int a, .int x, .int z]) (n := 5) (Nat.le_of_ble_eq_true rfl)
  rw [lg_entry_eq]
  generalize (lg_sl ([.ref (t 0), .int a, .int x, .int z]) ++ List.replicate (5 - (lg_sl ([.ref (t 0), .int a, .int x, .int z])).length) Slot.unset).toArray = ls at hl ⊢
  have hl : lv_has ls 5 [(0, .ref (t 0)), (1, .int a), (2, .int x), (3, .int z)] := hl
  refine lv_aload_n hx hb dX7_layer_0 rfl (lv_at hl 0 rfl) ?_
  refine va_get (D := D) (ci := 6) (v := .ref (n 0)) (C := RX7) (T := TX7) (N := 11) hx hb hts inlX7 hown hK hP 0 rfl rfl 2 (by decide) (hts _ mw_20) (fun _ h9 => h9) rfl dX7_layer_1 ?_
  refine lv_iload_n hx hb dX7_layer_4 rfl (lv_at hl 1 rfl) ?_
  refine kV_i (q0 := 0) (As := [.int a]) (rest := []) (cs := [((n 0), .inr (5, [.int 0, .int 0, .int 3, .int 8, .int 4, .int 4, .int 0, .int 0, .int 0, .int 0, .int 0, .ref (n 1), .ref (n 2), .ref (n 3), .ref (n 4), .ref (n 5)]))]) ⟨hx, hb, hml, hown, hts⟩ (c_W_isRoof l D k n 0 a) (gV mw_364 mw_365 mw_366 mw_19 mw_367) hd_yX6_isRoof rfl rfl ⟨Nat.le_of_ble_eq_true rfl, Nat.le_of_ble_eq_true rfl⟩ hK (hP.sub (ws' := [((n 0), .inr (5, [.int 0, .int 0, .int 3, .int 8, .int 4, .int 4, .int 0, .int 0, .int 0, .int 0, .int 0, .ref (n 1), .ref (n 2), .ref (n 3), .ref (n 4), .ref (n 5)]))]) [1] rfl) rfl rfl rfl rfl hl.1 rfl (Nat.le_of_ble_eq_true rfl) dX7_layer_5 ⟨Nat.le_of_ble_eq_true rfl, Nat.le_of_ble_eq_true rfl⟩ (fun r_1 hr_1 => ?_)
  obtain rfl : r_1 = 0 := hr_1
  refine lv_if_eq (tgt := 21) hx hb dX7_layer_8 (by decide) (fun _ => ?_) (fun c9 => absurd c9 (by decide))
  refine lv_bipush (v := (-2)) hx hb dX7_layer_21 (by decide) ?_
  exact W.iret (v := (-2)) hx hb hr (fun t ht hW => ⟨(-2), rfl, rfl, ht⟩) (fun q h => by cases h) dX7_layer_23
set_option maxHeartbeats 4000000 in
set_option maxRecDepth 100000 in
theorem c_T_leaksIn (l : Launch) (D : va_G) (k : Nat → ClassId) (t : Nat → Nat) (n : Nat → Nat) (v : Nat → Nat) (d : Nat → Nat) (a : Int32) : Met l yX7_leaksIn (Cond.code yX7_leaksIn cX7_leaksIn 2 (some .int) :: wsL_law) ({ frames := 1, cells := 0, slots := 0, locals := 60 } : Room) (va_Pc [.ref (t 0), .int a] (pr D k [((t 0), .inr (6, [.ref (t 1), .int 0, .ref (n 0), .ref (v 0), .ref (t 2), .ref (t 3), .ref (t 4), .ref (t 5), .ref (d 0), .ref (t 6), .ref (t 7)])), ((n 0), .inr (5, [.int 0, .int 0, .int 3, .int 8, .int 4, .int 4, .int 0, .int 0, .int 0, .int 0, .int 0, .ref (n 1), .ref (n 2), .ref (n 3), .ref (n 4), .ref (n 5)]))])) (vp_Si (fun rr => rr = (-2))) 0 0 (fun _ => False) := by
  refine Met.ofW (cc := cX7_leaksIn) (maxL := 2) (ret := (some .int)) (by decide) rfl ?_
  intro p e s m args below meth c s₁ B hml hv
  obtain ⟨rfl, hP, hK⟩ := hv
  have hx := B.exec
  have hb := B.bytes
  have hr := B.returns
  have hts : ∀ w ∈ wsL_law, w.before _ s = true := fun w h => atoms_spec (ws := Cond.code yX7_leaksIn cX7_leaksIn 2 (some .int) :: wsL_law) B.pre w (List.mem_cons_of_mem _ h)
  have hown : s.vm.findClass RX7 = some m.cls := findClass_of_methodNamed B.named
  have hlocks := B.notSynchronized
  have hP : va_P D vwCl [((t 0), .inr (6, [.ref (t 1), .int 0, .ref (n 0), .ref (v 0), .ref (t 2), .ref (t 3), .ref (t 4), .ref (t 5), .ref (d 0), .ref (t 6), .ref (t 7)])), ((n 0), .inr (5, [.int 0, .int 0, .int 3, .int 8, .int 4, .int 4, .int 0, .int 0, .int 0, .int 0, .int 0, .ref (n 1), .ref (n 2), .ref (n 3), .ref (n 4), .ref (n 5)]))] s.heap := hP
  have hl := lv_entry ([.ref (t 0), .int a]) (n := 2) (Nat.le_of_ble_eq_true rfl)
  rw [lg_entry_eq]
  generalize (lg_sl ([.ref (t 0), .int a]) ++ List.replicate (2 - (lg_sl ([.ref (t 0), .int a])).length) Slot.unset).toArray = ls at hl ⊢
  have hl : lv_has ls 2 [(0, .ref (t 0)), (1, .int a)] := hl
  refine lv_aload_n hx hb dX7_leaksIn_0 rfl (lv_at hl 0 rfl) ?_
  refine va_get (D := D) (ci := 6) (v := .ref (n 0)) (C := RX7) (T := TX7) (N := 11) hx hb hts inlX7 hown hK hP 0 rfl rfl 2 (by decide) (hts _ mw_20) (fun _ h9 => h9) rfl dX7_leaksIn_1 ?_
  refine lv_iload_n hx hb dX7_leaksIn_4 rfl (lv_at hl 1 rfl) ?_
  refine kV_i (q0 := 0) (As := [.int a]) (rest := []) (cs := [((n 0), .inr (5, [.int 0, .int 0, .int 3, .int 8, .int 4, .int 4, .int 0, .int 0, .int 0, .int 0, .int 0, .ref (n 1), .ref (n 2), .ref (n 3), .ref (n 4), .ref (n 5)]))]) ⟨hx, hb, hml, hown, hts⟩ (c_W_isRoof l D k n 0 a) (gV mw_364 mw_365 mw_366 mw_19 mw_367) hd_yX6_isRoof rfl rfl ⟨Nat.le_of_ble_eq_true rfl, Nat.le_of_ble_eq_true rfl⟩ hK (hP.sub (ws' := [((n 0), .inr (5, [.int 0, .int 0, .int 3, .int 8, .int 4, .int 4, .int 0, .int 0, .int 0, .int 0, .int 0, .ref (n 1), .ref (n 2), .ref (n 3), .ref (n 4), .ref (n 5)]))]) [1] rfl) rfl rfl rfl rfl hl.1 rfl (Nat.le_of_ble_eq_true rfl) dX7_leaksIn_5 ⟨Nat.le_of_ble_eq_true rfl, Nat.le_of_ble_eq_true rfl⟩ (fun r_1 hr_1 => ?_)
  obtain rfl : r_1 = 0 := hr_1
  refine lv_if_ne (tgt := 14) hx hb dX7_leaksIn_8 (by decide) (fun c9 => absurd c9 (by decide)) (fun _ => ?_)
  refine lv_bipush (v := (-2)) hx hb dX7_leaksIn_11 (by decide) ?_
  exact W.iret (v := (-2)) hx hb hr (fun t ht hW => ⟨(-2), rfl, rfl, ht⟩) (fun q h => by cases h) dX7_leaksIn_13
set_option maxHeartbeats 4000000 in
set_option maxRecDepth 100000 in
theorem c_T_spread (l : Launch) (D : va_G) (k : Nat → ClassId) (t : Nat → Nat) (n : Nat → Nat) (v : Nat → Nat) (d : Nat → Nat) (a : Int32) : Met l yX7_spread (Cond.code yX7_spread cX7_spread 2 (some .int) :: wsL_law) ({ frames := 1, cells := 0, slots := 0, locals := 60 } : Room) (va_Pc [.ref (t 0), .int a] (pr D k [((t 0), .inr (6, [.ref (t 1), .int 0, .ref (n 0), .ref (v 0), .ref (t 2), .ref (t 3), .ref (t 4), .ref (t 5), .ref (d 0), .ref (t 6), .ref (t 7)])), ((n 0), .inr (5, [.int 0, .int 0, .int 3, .int 8, .int 4, .int 4, .int 0, .int 0, .int 0, .int 0, .int 0, .ref (n 1), .ref (n 2), .ref (n 3), .ref (n 4), .ref (n 5)]))])) (vp_Si (fun rr => rr = (-2))) 0 0 (fun _ => False) := by
  refine Met.ofW (cc := cX7_spread) (maxL := 2) (ret := (some .int)) (by decide) rfl ?_
  intro p e s m args below meth c s₁ B hml hv
  obtain ⟨rfl, hP, hK⟩ := hv
  have hx := B.exec
  have hb := B.bytes
  have hr := B.returns
  have hts : ∀ w ∈ wsL_law, w.before _ s = true := fun w h => atoms_spec (ws := Cond.code yX7_spread cX7_spread 2 (some .int) :: wsL_law) B.pre w (List.mem_cons_of_mem _ h)
  have hown : s.vm.findClass RX7 = some m.cls := findClass_of_methodNamed B.named
  have hlocks := B.notSynchronized
  have hP : va_P D vwCl [((t 0), .inr (6, [.ref (t 1), .int 0, .ref (n 0), .ref (v 0), .ref (t 2), .ref (t 3), .ref (t 4), .ref (t 5), .ref (d 0), .ref (t 6), .ref (t 7)])), ((n 0), .inr (5, [.int 0, .int 0, .int 3, .int 8, .int 4, .int 4, .int 0, .int 0, .int 0, .int 0, .int 0, .ref (n 1), .ref (n 2), .ref (n 3), .ref (n 4), .ref (n 5)]))] s.heap := hP
  have hl := lv_entry ([.ref (t 0), .int a]) (n := 2) (Nat.le_of_ble_eq_true rfl)
  rw [lg_entry_eq]
  generalize (lg_sl ([.ref (t 0), .int a]) ++ List.replicate (2 - (lg_sl ([.ref (t 0), .int a])).length) Slot.unset).toArray = ls at hl ⊢
  have hl : lv_has ls 2 [(0, .ref (t 0)), (1, .int a)] := hl
  refine lv_aload_n hx hb dX7_spread_0 rfl (lv_at hl 0 rfl) ?_
  refine va_get (D := D) (ci := 6) (v := .ref (n 0)) (C := RX7) (T := TX7) (N := 11) hx hb hts inlX7 hown hK hP 0 rfl rfl 2 (by decide) (hts _ mw_20) (fun _ h9 => h9) rfl dX7_spread_1 ?_
  refine lv_iload_n hx hb dX7_spread_4 rfl (lv_at hl 1 rfl) ?_
  refine kV_i (q0 := 0) (As := [.int a]) (rest := []) (cs := [((n 0), .inr (5, [.int 0, .int 0, .int 3, .int 8, .int 4, .int 4, .int 0, .int 0, .int 0, .int 0, .int 0, .ref (n 1), .ref (n 2), .ref (n 3), .ref (n 4), .ref (n 5)]))]) ⟨hx, hb, hml, hown, hts⟩ (c_W_isRoof l D k n 0 a) (gV mw_364 mw_365 mw_366 mw_19 mw_367) hd_yX6_isRoof rfl rfl ⟨Nat.le_of_ble_eq_true rfl, Nat.le_of_ble_eq_true rfl⟩ hK (hP.sub (ws' := [((n 0), .inr (5, [.int 0, .int 0, .int 3, .int 8, .int 4, .int 4, .int 0, .int 0, .int 0, .int 0, .int 0, .ref (n 1), .ref (n 2), .ref (n 3), .ref (n 4), .ref (n 5)]))]) [1] rfl) rfl rfl rfl rfl hl.1 rfl (Nat.le_of_ble_eq_true rfl) dX7_spread_5 ⟨Nat.le_of_ble_eq_true rfl, Nat.le_of_ble_eq_true rfl⟩ (fun r_1 hr_1 => ?_)
  obtain rfl : r_1 = 0 := hr_1
  refine lv_if_eq (tgt := 22) hx hb dX7_spread_8 (by decide) (fun _ => ?_) (fun c9 => absurd c9 (by decide))
  refine lv_bipush (v := (-2)) hx hb dX7_spread_22 (by decide) ?_
  exact W.iret (v := (-2)) hx hb hr (fun t ht hW => ⟨(-2), rfl, rfl, ht⟩) (fun q h => by cases h) dX7_spread_24
set_option maxHeartbeats 4000000 in
set_option maxRecDepth 100000 in
theorem c_T_mice (l : Launch) (D : va_G) (k : Nat → ClassId) (t : Nat → Nat) (n : Nat → Nat) (v : Nat → Nat) (d : Nat → Nat) (a : Int32) (x : Int32) : Met l yX7_mice (Cond.code yX7_mice cX7_mice 5 (some .int) :: wsL_law) ({ frames := 1, cells := 0, slots := 0, locals := 60 } : Room) (va_Pc [.ref (t 0), .int a, .int x] (pr D k [((t 0), .inr (6, [.ref (t 1), .int 0, .ref (n 0), .ref (v 0), .ref (t 2), .ref (t 3), .ref (t 4), .ref (t 5), .ref (d 0), .ref (t 6), .ref (t 7)])), ((n 0), .inr (5, [.int 0, .int 0, .int 3, .int 8, .int 4, .int 4, .int 0, .int 0, .int 0, .int 0, .int 0, .ref (n 1), .ref (n 2), .ref (n 3), .ref (n 4), .ref (n 5)]))])) (vp_Si (fun rr => rr = (-2))) 0 0 (fun _ => False) := by
  refine Met.ofW (cc := cX7_mice) (maxL := 5) (ret := (some .int)) (by decide) rfl ?_
  intro p e s m args below meth c s₁ B hml hv
  obtain ⟨rfl, hP, hK⟩ := hv
  have hx := B.exec
  have hb := B.bytes
  have hr := B.returns
  have hts : ∀ w ∈ wsL_law, w.before _ s = true := fun w h => atoms_spec (ws := Cond.code yX7_mice cX7_mice 5 (some .int) :: wsL_law) B.pre w (List.mem_cons_of_mem _ h)
  have hown : s.vm.findClass RX7 = some m.cls := findClass_of_methodNamed B.named
  have hlocks := B.notSynchronized
  have hP : va_P D vwCl [((t 0), .inr (6, [.ref (t 1), .int 0, .ref (n 0), .ref (v 0), .ref (t 2), .ref (t 3), .ref (t 4), .ref (t 5), .ref (d 0), .ref (t 6), .ref (t 7)])), ((n 0), .inr (5, [.int 0, .int 0, .int 3, .int 8, .int 4, .int 4, .int 0, .int 0, .int 0, .int 0, .int 0, .ref (n 1), .ref (n 2), .ref (n 3), .ref (n 4), .ref (n 5)]))] s.heap := hP
  have hl := lv_entry ([.ref (t 0), .int a, .int x]) (n := 5) (Nat.le_of_ble_eq_true rfl)
  rw [lg_entry_eq]
  generalize (lg_sl ([.ref (t 0), .int a, .int x]) ++ List.replicate (5 - (lg_sl ([.ref (t 0), .int a, .int x])).length) Slot.unset).toArray = ls at hl ⊢
  have hl : lv_has ls 5 [(0, .ref (t 0)), (1, .int a), (2, .int x)] := hl
  refine lv_aload_n hx hb dX7_mice_0 rfl (lv_at hl 0 rfl) ?_
  refine va_get (D := D) (ci := 6) (v := .ref (n 0)) (C := RX7) (T := TX7) (N := 11) hx hb hts inlX7 hown hK hP 0 rfl rfl 2 (by decide) (hts _ mw_20) (fun _ h9 => h9) rfl dX7_mice_1 ?_
  refine lv_iload_n hx hb dX7_mice_4 rfl (lv_at hl 1 rfl) ?_
  refine kV_i (q0 := 0) (As := [.int a]) (rest := []) (cs := [((n 0), .inr (5, [.int 0, .int 0, .int 3, .int 8, .int 4, .int 4, .int 0, .int 0, .int 0, .int 0, .int 0, .ref (n 1), .ref (n 2), .ref (n 3), .ref (n 4), .ref (n 5)]))]) ⟨hx, hb, hml, hown, hts⟩ (c_W_isRoof l D k n 0 a) (gV mw_364 mw_365 mw_366 mw_19 mw_367) hd_yX6_isRoof rfl rfl ⟨Nat.le_of_ble_eq_true rfl, Nat.le_of_ble_eq_true rfl⟩ hK (hP.sub (ws' := [((n 0), .inr (5, [.int 0, .int 0, .int 3, .int 8, .int 4, .int 4, .int 0, .int 0, .int 0, .int 0, .int 0, .ref (n 1), .ref (n 2), .ref (n 3), .ref (n 4), .ref (n 5)]))]) [1] rfl) rfl rfl rfl rfl hl.1 rfl (Nat.le_of_ble_eq_true rfl) dX7_mice_5 ⟨Nat.le_of_ble_eq_true rfl, Nat.le_of_ble_eq_true rfl⟩ (fun r_1 hr_1 => ?_)
  obtain rfl : r_1 = 0 := hr_1
  refine lv_if_ne (tgt := 14) hx hb dX7_mice_8 (by decide) (fun c9 => absurd c9 (by decide)) (fun _ => ?_)
  refine lv_bipush (v := (-2)) hx hb dX7_mice_11 (by decide) ?_
  exact W.iret (v := (-2)) hx hb hr (fun t ht hW => ⟨(-2), rfl, rfl, ht⟩) (fun q h => by cases h) dX7_mice_13
set_option maxHeartbeats 4000000 in
set_option maxRecDepth 100000 in
theorem c_T_spark (l : Launch) (D : va_G) (k : Nat → ClassId) (t : Nat → Nat) (n : Nat → Nat) (v : Nat → Nat) (d : Nat → Nat) (a : Int32) : Met l yX7_spark (Cond.code yX7_spark cX7_spark 2 (some .int) :: wsL_law) ({ frames := 1, cells := 0, slots := 0, locals := 60 } : Room) (va_Pc [.ref (t 0), .int a] (pr D k [((t 0), .inr (6, [.ref (t 1), .int 0, .ref (n 0), .ref (v 0), .ref (t 2), .ref (t 3), .ref (t 4), .ref (t 5), .ref (d 0), .ref (t 6), .ref (t 7)])), ((n 0), .inr (5, [.int 0, .int 0, .int 3, .int 8, .int 4, .int 4, .int 0, .int 0, .int 0, .int 0, .int 0, .ref (n 1), .ref (n 2), .ref (n 3), .ref (n 4), .ref (n 5)]))])) (vp_Si (fun rr => rr = (-2))) 0 0 (fun _ => False) := by
  refine Met.ofW (cc := cX7_spark) (maxL := 2) (ret := (some .int)) (by decide) rfl ?_
  intro p e s m args below meth c s₁ B hml hv
  obtain ⟨rfl, hP, hK⟩ := hv
  have hx := B.exec
  have hb := B.bytes
  have hr := B.returns
  have hts : ∀ w ∈ wsL_law, w.before _ s = true := fun w h => atoms_spec (ws := Cond.code yX7_spark cX7_spark 2 (some .int) :: wsL_law) B.pre w (List.mem_cons_of_mem _ h)
  have hown : s.vm.findClass RX7 = some m.cls := findClass_of_methodNamed B.named
  have hlocks := B.notSynchronized
  have hP : va_P D vwCl [((t 0), .inr (6, [.ref (t 1), .int 0, .ref (n 0), .ref (v 0), .ref (t 2), .ref (t 3), .ref (t 4), .ref (t 5), .ref (d 0), .ref (t 6), .ref (t 7)])), ((n 0), .inr (5, [.int 0, .int 0, .int 3, .int 8, .int 4, .int 4, .int 0, .int 0, .int 0, .int 0, .int 0, .ref (n 1), .ref (n 2), .ref (n 3), .ref (n 4), .ref (n 5)]))] s.heap := hP
  have hl := lv_entry ([.ref (t 0), .int a]) (n := 2) (Nat.le_of_ble_eq_true rfl)
  rw [lg_entry_eq]
  generalize (lg_sl ([.ref (t 0), .int a]) ++ List.replicate (2 - (lg_sl ([.ref (t 0), .int a])).length) Slot.unset).toArray = ls at hl ⊢
  have hl : lv_has ls 2 [(0, .ref (t 0)), (1, .int a)] := hl
  refine lv_aload_n hx hb dX7_spark_0 rfl (lv_at hl 0 rfl) ?_
  refine va_get (D := D) (ci := 6) (v := .ref (n 0)) (C := RX7) (T := TX7) (N := 11) hx hb hts inlX7 hown hK hP 0 rfl rfl 2 (by decide) (hts _ mw_20) (fun _ h9 => h9) rfl dX7_spark_1 ?_
  refine lv_iload_n hx hb dX7_spark_4 rfl (lv_at hl 1 rfl) ?_
  refine kV_i (q0 := 0) (As := [.int a]) (rest := []) (cs := [((n 0), .inr (5, [.int 0, .int 0, .int 3, .int 8, .int 4, .int 4, .int 0, .int 0, .int 0, .int 0, .int 0, .ref (n 1), .ref (n 2), .ref (n 3), .ref (n 4), .ref (n 5)]))]) ⟨hx, hb, hml, hown, hts⟩ (c_W_isRoof l D k n 0 a) (gV mw_364 mw_365 mw_366 mw_19 mw_367) hd_yX6_isRoof rfl rfl ⟨Nat.le_of_ble_eq_true rfl, Nat.le_of_ble_eq_true rfl⟩ hK (hP.sub (ws' := [((n 0), .inr (5, [.int 0, .int 0, .int 3, .int 8, .int 4, .int 4, .int 0, .int 0, .int 0, .int 0, .int 0, .ref (n 1), .ref (n 2), .ref (n 3), .ref (n 4), .ref (n 5)]))]) [1] rfl) rfl rfl rfl rfl hl.1 rfl (Nat.le_of_ble_eq_true rfl) dX7_spark_5 ⟨Nat.le_of_ble_eq_true rfl, Nat.le_of_ble_eq_true rfl⟩ (fun r_1 hr_1 => ?_)
  obtain rfl : r_1 = 0 := hr_1
  refine lv_if_ne (tgt := 14) hx hb dX7_spark_8 (by decide) (fun c9 => absurd c9 (by decide)) (fun _ => ?_)
  refine lv_bipush (v := (-2)) hx hb dX7_spark_11 (by decide) ?_
  exact W.iret (v := (-2)) hx hb hr (fun t ht hW => ⟨(-2), rfl, rfl, ht⟩) (fun q h => by cases h) dX7_spark_13
set_option maxHeartbeats 4000000 in
set_option maxRecDepth 100000 in
theorem c_T_harms (l : Launch) (D : va_G) (k : Nat → ClassId) (t : Nat → Nat) (n : Nat → Nat) (v : Nat → Nat) (d : Nat → Nat) (a : Int32) (x : Int32) (z : Int32) : Met l yX7_harms (Cond.code yX7_harms cX7_harms 4 (some .int) :: wsL_law) ({ frames := 1, cells := 0, slots := 0, locals := 60 } : Room) (va_Pc [.ref (t 0), .int a, .int x, .int z] (pr D k [((t 0), .inr (6, [.ref (t 1), .int 0, .ref (n 0), .ref (v 0), .ref (t 2), .ref (t 3), .ref (t 4), .ref (t 5), .ref (d 0), .ref (t 6), .ref (t 7)])), ((n 0), .inr (5, [.int 0, .int 0, .int 3, .int 8, .int 4, .int 4, .int 0, .int 0, .int 0, .int 0, .int 0, .ref (n 1), .ref (n 2), .ref (n 3), .ref (n 4), .ref (n 5)]))])) (vp_Si (fun rr => rr = (-2))) 0 0 (fun _ => False) := by
  refine Met.ofW (cc := cX7_harms) (maxL := 4) (ret := (some .int)) (by decide) rfl ?_
  intro p e s m args below meth c s₁ B hml hv
  obtain ⟨rfl, hP, hK⟩ := hv
  have hx := B.exec
  have hb := B.bytes
  have hr := B.returns
  have hts : ∀ w ∈ wsL_law, w.before _ s = true := fun w h => atoms_spec (ws := Cond.code yX7_harms cX7_harms 4 (some .int) :: wsL_law) B.pre w (List.mem_cons_of_mem _ h)
  have hown : s.vm.findClass RX7 = some m.cls := findClass_of_methodNamed B.named
  have hlocks := B.notSynchronized
  have hP : va_P D vwCl [((t 0), .inr (6, [.ref (t 1), .int 0, .ref (n 0), .ref (v 0), .ref (t 2), .ref (t 3), .ref (t 4), .ref (t 5), .ref (d 0), .ref (t 6), .ref (t 7)])), ((n 0), .inr (5, [.int 0, .int 0, .int 3, .int 8, .int 4, .int 4, .int 0, .int 0, .int 0, .int 0, .int 0, .ref (n 1), .ref (n 2), .ref (n 3), .ref (n 4), .ref (n 5)]))] s.heap := hP
  have hl := lv_entry ([.ref (t 0), .int a, .int x, .int z]) (n := 4) (Nat.le_of_ble_eq_true rfl)
  rw [lg_entry_eq]
  generalize (lg_sl ([.ref (t 0), .int a, .int x, .int z]) ++ List.replicate (4 - (lg_sl ([.ref (t 0), .int a, .int x, .int z])).length) Slot.unset).toArray = ls at hl ⊢
  have hl : lv_has ls 4 [(0, .ref (t 0)), (1, .int a), (2, .int x), (3, .int z)] := hl
  refine lv_aload_n hx hb dX7_harms_0 rfl (lv_at hl 0 rfl) ?_
  refine va_get (D := D) (ci := 6) (v := .ref (n 0)) (C := RX7) (T := TX7) (N := 11) hx hb hts inlX7 hown hK hP 0 rfl rfl 2 (by decide) (hts _ mw_20) (fun _ h9 => h9) rfl dX7_harms_1 ?_
  refine lv_iload_n hx hb dX7_harms_4 rfl (lv_at hl 2 rfl) ?_
  refine kV_i (q0 := 0) (As := [.int x]) (rest := []) (cs := [((n 0), .inr (5, [.int 0, .int 0, .int 3, .int 8, .int 4, .int 4, .int 0, .int 0, .int 0, .int 0, .int 0, .ref (n 1), .ref (n 2), .ref (n 3), .ref (n 4), .ref (n 5)]))]) ⟨hx, hb, hml, hown, hts⟩ (c_W_isRoof l D k n 0 x) (gV mw_364 mw_365 mw_366 mw_19 mw_367) hd_yX6_isRoof rfl rfl ⟨Nat.le_of_ble_eq_true rfl, Nat.le_of_ble_eq_true rfl⟩ hK (hP.sub (ws' := [((n 0), .inr (5, [.int 0, .int 0, .int 3, .int 8, .int 4, .int 4, .int 0, .int 0, .int 0, .int 0, .int 0, .ref (n 1), .ref (n 2), .ref (n 3), .ref (n 4), .ref (n 5)]))]) [1] rfl) rfl rfl rfl rfl hl.1 rfl (Nat.le_of_ble_eq_true rfl) dX7_harms_5 ⟨Nat.le_of_ble_eq_true rfl, Nat.le_of_ble_eq_true rfl⟩ (fun r_1 hr_1 => ?_)
  obtain rfl : r_1 = 0 := hr_1
  refine lv_if_ne (tgt := 14) hx hb dX7_harms_8 (by decide) (fun c9 => absurd c9 (by decide)) (fun _ => ?_)
  refine lv_bipush (v := (-2)) hx hb dX7_harms_11 (by decide) ?_
  exact W.iret (v := (-2)) hx hb hr (fun t ht hW => ⟨(-2), rfl, rfl, ht⟩) (fun q h => by cases h) dX7_harms_13
set_option maxHeartbeats 4000000 in
set_option maxRecDepth 100000 in
theorem c_T_copy (l : Launch) (D : va_G) (k : Nat → ClassId) (t : Nat → Nat) (n : Nat → Nat) (v : Nat → Nat) (d : Nat → Nat) (a : Int32) (x : Int32) : Met l yX7_copy (Cond.code yX7_copy cX7_copy 5 (some .int) :: wsL_law) ({ frames := 1, cells := 0, slots := 0, locals := 60 } : Room) (va_Pc [.ref (t 0), .int a, .int x] (pr D k [((t 0), .inr (6, [.ref (t 1), .int 0, .ref (n 0), .ref (v 0), .ref (t 2), .ref (t 3), .ref (t 4), .ref (t 5), .ref (d 0), .ref (t 6), .ref (t 7)])), ((n 0), .inr (5, [.int 0, .int 0, .int 3, .int 8, .int 4, .int 4, .int 0, .int 0, .int 0, .int 0, .int 0, .ref (n 1), .ref (n 2), .ref (n 3), .ref (n 4), .ref (n 5)]))])) (vp_Si (fun rr => rr = (-2))) 0 0 (fun _ => False) := by
  refine Met.ofW (cc := cX7_copy) (maxL := 5) (ret := (some .int)) (by decide) rfl ?_
  intro p e s m args below meth c s₁ B hml hv
  obtain ⟨rfl, hP, hK⟩ := hv
  have hx := B.exec
  have hb := B.bytes
  have hr := B.returns
  have hts : ∀ w ∈ wsL_law, w.before _ s = true := fun w h => atoms_spec (ws := Cond.code yX7_copy cX7_copy 5 (some .int) :: wsL_law) B.pre w (List.mem_cons_of_mem _ h)
  have hown : s.vm.findClass RX7 = some m.cls := findClass_of_methodNamed B.named
  have hlocks := B.notSynchronized
  have hP : va_P D vwCl [((t 0), .inr (6, [.ref (t 1), .int 0, .ref (n 0), .ref (v 0), .ref (t 2), .ref (t 3), .ref (t 4), .ref (t 5), .ref (d 0), .ref (t 6), .ref (t 7)])), ((n 0), .inr (5, [.int 0, .int 0, .int 3, .int 8, .int 4, .int 4, .int 0, .int 0, .int 0, .int 0, .int 0, .ref (n 1), .ref (n 2), .ref (n 3), .ref (n 4), .ref (n 5)]))] s.heap := hP
  have hl := lv_entry ([.ref (t 0), .int a, .int x]) (n := 5) (Nat.le_of_ble_eq_true rfl)
  rw [lg_entry_eq]
  generalize (lg_sl ([.ref (t 0), .int a, .int x]) ++ List.replicate (5 - (lg_sl ([.ref (t 0), .int a, .int x])).length) Slot.unset).toArray = ls at hl ⊢
  have hl : lv_has ls 5 [(0, .ref (t 0)), (1, .int a), (2, .int x)] := hl
  refine lv_aload_n hx hb dX7_copy_0 rfl (lv_at hl 0 rfl) ?_
  refine va_get (D := D) (ci := 6) (v := .ref (n 0)) (C := RX7) (T := TX7) (N := 11) hx hb hts inlX7 hown hK hP 0 rfl rfl 2 (by decide) (hts _ mw_20) (fun _ h9 => h9) rfl dX7_copy_1 ?_
  refine lv_iload_n hx hb dX7_copy_4 rfl (lv_at hl 1 rfl) ?_
  refine kV_i (q0 := 0) (As := [.int a]) (rest := []) (cs := [((n 0), .inr (5, [.int 0, .int 0, .int 3, .int 8, .int 4, .int 4, .int 0, .int 0, .int 0, .int 0, .int 0, .ref (n 1), .ref (n 2), .ref (n 3), .ref (n 4), .ref (n 5)]))]) ⟨hx, hb, hml, hown, hts⟩ (c_W_isRoof l D k n 0 a) (gV mw_364 mw_365 mw_366 mw_19 mw_367) hd_yX6_isRoof rfl rfl ⟨Nat.le_of_ble_eq_true rfl, Nat.le_of_ble_eq_true rfl⟩ hK (hP.sub (ws' := [((n 0), .inr (5, [.int 0, .int 0, .int 3, .int 8, .int 4, .int 4, .int 0, .int 0, .int 0, .int 0, .int 0, .ref (n 1), .ref (n 2), .ref (n 3), .ref (n 4), .ref (n 5)]))]) [1] rfl) rfl rfl rfl rfl hl.1 rfl (Nat.le_of_ble_eq_true rfl) dX7_copy_5 ⟨Nat.le_of_ble_eq_true rfl, Nat.le_of_ble_eq_true rfl⟩ (fun r_1 hr_1 => ?_)
  obtain rfl : r_1 = 0 := hr_1
  refine lv_if_eq (tgt := 18) hx hb dX7_copy_8 (by decide) (fun _ => ?_) (fun c9 => absurd c9 (by decide))
  refine lv_bipush (v := (-2)) hx hb dX7_copy_18 (by decide) ?_
  exact W.iret (v := (-2)) hx hb hr (fun t ht hW => ⟨(-2), rfl, rfl, ht⟩) (fun q h => by cases h) dX7_copy_20
set_option maxHeartbeats 4000000 in
set_option maxRecDepth 100000 in
theorem c_T_mend (l : Launch) (D : va_G) (k : Nat → ClassId) (t : Nat → Nat) (n : Nat → Nat) (v : Nat → Nat) (d : Nat → Nat) (a : Int32) (x : Int32) : Met l yX7_mend (Cond.code yX7_mend cX7_mend 5 (some .int) :: wsL_law) ({ frames := 2, cells := 0, slots := 0, locals := 120 } : Room) (va_Pc [.ref (t 0), .int a, .int x] (pr D k [((t 0), .inr (6, [.ref (t 1), .int 0, .ref (n 0), .ref (v 0), .ref (t 2), .ref (t 3), .ref (t 4), .ref (t 5), .ref (d 0), .ref (t 6), .ref (t 7)])), ((n 0), .inr (5, [.int 0, .int 0, .int 3, .int 8, .int 4, .int 4, .int 0, .int 0, .int 0, .int 0, .int 0, .ref (n 1), .ref (n 2), .ref (n 3), .ref (n 4), .ref (n 5)]))])) (vp_Si (fun rr => rr = (-2))) 0 0 (fun _ => False) := by
  refine Met.ofW (cc := cX7_mend) (maxL := 5) (ret := (some .int)) (by decide) rfl ?_
  intro p e s m args below meth c s₁ B hml hv
  obtain ⟨rfl, hP, hK⟩ := hv
  have hx := B.exec
  have hb := B.bytes
  have hr := B.returns
  have hts : ∀ w ∈ wsL_law, w.before _ s = true := fun w h => atoms_spec (ws := Cond.code yX7_mend cX7_mend 5 (some .int) :: wsL_law) B.pre w (List.mem_cons_of_mem _ h)
  have hown : s.vm.findClass RX7 = some m.cls := findClass_of_methodNamed B.named
  have hlocks := B.notSynchronized
  have hP : va_P D vwCl [((t 0), .inr (6, [.ref (t 1), .int 0, .ref (n 0), .ref (v 0), .ref (t 2), .ref (t 3), .ref (t 4), .ref (t 5), .ref (d 0), .ref (t 6), .ref (t 7)])), ((n 0), .inr (5, [.int 0, .int 0, .int 3, .int 8, .int 4, .int 4, .int 0, .int 0, .int 0, .int 0, .int 0, .ref (n 1), .ref (n 2), .ref (n 3), .ref (n 4), .ref (n 5)]))] s.heap := hP
  have hl := lv_entry ([.ref (t 0), .int a, .int x]) (n := 5) (Nat.le_of_ble_eq_true rfl)
  rw [lg_entry_eq]
  generalize (lg_sl ([.ref (t 0), .int a, .int x]) ++ List.replicate (5 - (lg_sl ([.ref (t 0), .int a, .int x])).length) Slot.unset).toArray = ls at hl ⊢
  have hl : lv_has ls 5 [(0, .ref (t 0)), (1, .int a), (2, .int x)] := hl
  refine lv_iload_n hx hb dX7_mend_0 rfl (lv_at hl 2 rfl) ?_
  refine lv_if_lt (tgt := 9) hx hb dX7_mend_1 (by decide) (fun c_1 => ?_) (fun c_1 => ?_)
  · have c_1 : x.toInt < 0 := ti_lt c_1
    refine lv_bipush (v := (-2)) hx hb dX7_mend_9 (by decide) ?_
    refine lv_goto (tgt := 19) hx hb dX7_mend_11 (by decide) ?_
    refine lv_istore_n (lv' := [(3, .int (-2)), (0, .ref (t 0)), (1, .int a), (2, .int x)]) hx hb dX7_mend_19 rfl hl (by decide) rfl (fun ls hl => ?_)
    refine lv_iload_n hx hb dX7_mend_20 rfl (lv_at hl 0 rfl) ?_
    refine lv_if_eq (tgt := 26) hx hb dX7_mend_21 (by decide) (fun c9 => absurd c9 (by decide)) (fun _ => ?_)
    refine lv_iload_n hx hb dX7_mend_24 rfl (lv_at hl 0 rfl) ?_
    exact W.iret (v := (-2)) hx hb hr (fun t ht hW => ⟨(-2), rfl, rfl, ht⟩) (fun q h => by cases h) dX7_mend_25
  · have c_1 : 0 ≤ x.toInt := ti_nlt c_1
    refine lv_iload_n hx hb dX7_mend_4 rfl (lv_at hl 2 rfl) ?_
    refine lv_iconst (v := 1) hx hb dX7_mend_5 (by decide) ?_
    refine lv_icmp_le (tgt := 14) hx hb dX7_mend_6 (by decide) (fun c_2 => ?_) (fun c_2 => ?_)
    · have c_2 : x.toInt ≤ 1 := ti_le c_2
      refine lv_aload_n hx hb dX7_mend_14 rfl (lv_at hl 0 rfl) ?_
      refine lv_iload_n hx hb dX7_mend_15 rfl (lv_at hl 1 rfl) ?_
      refine kV_i (q0 := 0) (As := [.int a]) (rest := []) (cs := [((t 0), .inr (6, [.ref (t 1), .int 0, .ref (n 0), .ref (v 0), .ref (t 2), .ref (t 3), .ref (t 4), .ref (t 5), .ref (d 0), .ref (t 6), .ref (t 7)])), ((n 0), .inr (5, [.int 0, .int 0, .int 3, .int 8, .int 4, .int 4, .int 0, .int 0, .int 0, .int 0, .int 0, .ref (n 1), .ref (n 2), .ref (n 3), .ref (n 4), .ref (n 5)]))]) ⟨hx, hb, hml, hown, hts⟩ (c_T_thatchRefusal l D k _ _ _ _ a) (gV mw_673 mw_674 mw_675 mw_2 mw_676) hd_yX7_thatchRefusal rfl rfl ⟨Nat.le_of_ble_eq_true rfl, Nat.le_of_ble_eq_true rfl⟩ hK (hP.sub (ws' := [((t 0), .inr (6, [.ref (t 1), .int 0, .ref (n 0), .ref (v 0), .ref (t 2), .ref (t 3), .ref (t 4), .ref (t 5), .ref (d 0), .ref (t 6), .ref (t 7)])), ((n 0), .inr (5, [.int 0, .int 0, .int 3, .int 8, .int 4, .int 4, .int 0, .int 0, .int 0, .int 0, .int 0, .ref (n 1), .ref (n 2), .ref (n 3), .ref (n 4), .ref (n 5)]))]) [0, 1] rfl) rfl rfl rfl rfl hl.1 rfl (Nat.le_of_ble_eq_true rfl) dX7_mend_16 ⟨Nat.le_of_ble_eq_true rfl, Nat.le_of_ble_eq_true rfl⟩ (fun r_3 hr_3 => ?_)
      obtain rfl : r_3 = (-2) := hr_3
      refine lv_istore_n (lv' := [(3, .int (-2)), (0, .ref (t 0)), (1, .int a), (2, .int x)]) hx hb dX7_mend_19 rfl hl (by decide) rfl (fun ls hl => ?_)
      refine lv_iload_n hx hb dX7_mend_20 rfl (lv_at hl 0 rfl) ?_
      refine lv_if_eq (tgt := 26) hx hb dX7_mend_21 (by decide) (fun c9 => absurd c9 (by decide)) (fun _ => ?_)
      refine lv_iload_n hx hb dX7_mend_24 rfl (lv_at hl 0 rfl) ?_
      exact W.iret (v := (-2)) hx hb hr (fun t ht hW => ⟨(-2), rfl, rfl, ht⟩) (fun q h => by cases h) dX7_mend_25
    · have c_2 : 1 < x.toInt := ti_nle c_2
      refine lv_bipush (v := (-2)) hx hb dX7_mend_9 (by decide) ?_
      refine lv_goto (tgt := 19) hx hb dX7_mend_11 (by decide) ?_
      refine lv_istore_n (lv' := [(3, .int (-2)), (0, .ref (t 0)), (1, .int a), (2, .int x)]) hx hb dX7_mend_19 rfl hl (by decide) rfl (fun ls hl => ?_)
      refine lv_iload_n hx hb dX7_mend_20 rfl (lv_at hl 0 rfl) ?_
      refine lv_if_eq (tgt := 26) hx hb dX7_mend_21 (by decide) (fun c9 => absurd c9 (by decide)) (fun _ => ?_)
      refine lv_iload_n hx hb dX7_mend_24 rfl (lv_at hl 0 rfl) ?_
      exact W.iret (v := (-2)) hx hb hr (fun t ht hW => ⟨(-2), rfl, rfl, ht⟩) (fun q h => by cases h) dX7_mend_25
set_option maxHeartbeats 4000000 in
set_option maxRecDepth 100000 in
theorem c_T_slate (l : Launch) (D : va_G) (k : Nat → ClassId) (t : Nat → Nat) (n : Nat → Nat) (v : Nat → Nat) (d : Nat → Nat) (a : Int32) : Met l yX7_slate (Cond.code yX7_slate cX7_slate 4 (some .int) :: wsL_law) ({ frames := 2, cells := 0, slots := 0, locals := 120 } : Room) (va_Pc [.ref (t 0), .int a] (pr D k [((t 0), .inr (6, [.ref (t 1), .int 0, .ref (n 0), .ref (v 0), .ref (t 2), .ref (t 3), .ref (t 4), .ref (t 5), .ref (d 0), .ref (t 6), .ref (t 7)])), ((n 0), .inr (5, [.int 0, .int 0, .int 3, .int 8, .int 4, .int 4, .int 0, .int 0, .int 0, .int 0, .int 0, .ref (n 1), .ref (n 2), .ref (n 3), .ref (n 4), .ref (n 5)]))])) (vp_Si (fun rr => rr = (-2))) 0 0 (fun _ => False) := by
  refine Met.ofW (cc := cX7_slate) (maxL := 4) (ret := (some .int)) (by decide) rfl ?_
  intro p e s m args below meth c s₁ B hml hv
  obtain ⟨rfl, hP, hK⟩ := hv
  have hx := B.exec
  have hb := B.bytes
  have hr := B.returns
  have hts : ∀ w ∈ wsL_law, w.before _ s = true := fun w h => atoms_spec (ws := Cond.code yX7_slate cX7_slate 4 (some .int) :: wsL_law) B.pre w (List.mem_cons_of_mem _ h)
  have hown : s.vm.findClass RX7 = some m.cls := findClass_of_methodNamed B.named
  have hlocks := B.notSynchronized
  have hP : va_P D vwCl [((t 0), .inr (6, [.ref (t 1), .int 0, .ref (n 0), .ref (v 0), .ref (t 2), .ref (t 3), .ref (t 4), .ref (t 5), .ref (d 0), .ref (t 6), .ref (t 7)])), ((n 0), .inr (5, [.int 0, .int 0, .int 3, .int 8, .int 4, .int 4, .int 0, .int 0, .int 0, .int 0, .int 0, .ref (n 1), .ref (n 2), .ref (n 3), .ref (n 4), .ref (n 5)]))] s.heap := hP
  have hl := lv_entry ([.ref (t 0), .int a]) (n := 4) (Nat.le_of_ble_eq_true rfl)
  rw [lg_entry_eq]
  generalize (lg_sl ([.ref (t 0), .int a]) ++ List.replicate (4 - (lg_sl ([.ref (t 0), .int a])).length) Slot.unset).toArray = ls at hl ⊢
  have hl : lv_has ls 4 [(0, .ref (t 0)), (1, .int a)] := hl
  refine lv_aload_n hx hb dX7_slate_0 rfl (lv_at hl 0 rfl) ?_
  refine lv_iload_n hx hb dX7_slate_1 rfl (lv_at hl 1 rfl) ?_
  refine kV_i (q0 := 0) (As := [.int a]) (rest := []) (cs := [((t 0), .inr (6, [.ref (t 1), .int 0, .ref (n 0), .ref (v 0), .ref (t 2), .ref (t 3), .ref (t 4), .ref (t 5), .ref (d 0), .ref (t 6), .ref (t 7)])), ((n 0), .inr (5, [.int 0, .int 0, .int 3, .int 8, .int 4, .int 4, .int 0, .int 0, .int 0, .int 0, .int 0, .ref (n 1), .ref (n 2), .ref (n 3), .ref (n 4), .ref (n 5)]))]) ⟨hx, hb, hml, hown, hts⟩ (c_T_thatchRefusal l D k _ _ _ _ a) (gV mw_673 mw_674 mw_675 mw_2 mw_676) hd_yX7_thatchRefusal rfl rfl ⟨Nat.le_of_ble_eq_true rfl, Nat.le_of_ble_eq_true rfl⟩ hK (hP.sub (ws' := [((t 0), .inr (6, [.ref (t 1), .int 0, .ref (n 0), .ref (v 0), .ref (t 2), .ref (t 3), .ref (t 4), .ref (t 5), .ref (d 0), .ref (t 6), .ref (t 7)])), ((n 0), .inr (5, [.int 0, .int 0, .int 3, .int 8, .int 4, .int 4, .int 0, .int 0, .int 0, .int 0, .int 0, .ref (n 1), .ref (n 2), .ref (n 3), .ref (n 4), .ref (n 5)]))]) [0, 1] rfl) rfl rfl rfl rfl hl.1 rfl (Nat.le_of_ble_eq_true rfl) dX7_slate_2 ⟨Nat.le_of_ble_eq_true rfl, Nat.le_of_ble_eq_true rfl⟩ (fun r_1 hr_1 => ?_)
  obtain rfl : r_1 = (-2) := hr_1
  refine lv_istore_n (lv' := [(2, .int (-2)), (0, .ref (t 0)), (1, .int a)]) hx hb dX7_slate_5 rfl hl (by decide) rfl (fun ls hl => ?_)
  refine lv_iload_n hx hb dX7_slate_6 rfl (lv_at hl 0 rfl) ?_
  refine lv_if_eq (tgt := 12) hx hb dX7_slate_7 (by decide) (fun c9 => absurd c9 (by decide)) (fun _ => ?_)
  refine lv_iload_n hx hb dX7_slate_10 rfl (lv_at hl 0 rfl) ?_
  exact W.iret (v := (-2)) hx hb hr (fun t ht hW => ⟨(-2), rfl, rfl, ht⟩) (fun q h => by cases h) dX7_slate_11
set_option maxHeartbeats 4000000 in
set_option maxRecDepth 100000 in
theorem c_T_burn (l : Launch) (D : va_G) (k : Nat → ClassId) (t : Nat → Nat) (n : Nat → Nat) (v : Nat → Nat) (d : Nat → Nat) (a : Int32) : Met l yX7_burn (Cond.code yX7_burn cX7_burn 4 (some .int) :: wsL_law) ({ frames := 2, cells := 0, slots := 0, locals := 120 } : Room) (va_Pc [.ref (t 0), .int a] (pr D k [((t 0), .inr (6, [.ref (t 1), .int 0, .ref (n 0), .ref (v 0), .ref (t 2), .ref (t 3), .ref (t 4), .ref (t 5), .ref (d 0), .ref (t 6), .ref (t 7)])), ((n 0), .inr (5, [.int 0, .int 0, .int 3, .int 8, .int 4, .int 4, .int 0, .int 0, .int 0, .int 0, .int 0, .ref (n 1), .ref (n 2), .ref (n 3), .ref (n 4), .ref (n 5)]))])) (vp_Si (fun rr => rr = (-2))) 0 0 (fun _ => False) := by
  refine Met.ofW (cc := cX7_burn) (maxL := 4) (ret := (some .int)) (by decide) rfl ?_
  intro p e s m args below meth c s₁ B hml hv
  obtain ⟨rfl, hP, hK⟩ := hv
  have hx := B.exec
  have hb := B.bytes
  have hr := B.returns
  have hts : ∀ w ∈ wsL_law, w.before _ s = true := fun w h => atoms_spec (ws := Cond.code yX7_burn cX7_burn 4 (some .int) :: wsL_law) B.pre w (List.mem_cons_of_mem _ h)
  have hown : s.vm.findClass RX7 = some m.cls := findClass_of_methodNamed B.named
  have hlocks := B.notSynchronized
  have hP : va_P D vwCl [((t 0), .inr (6, [.ref (t 1), .int 0, .ref (n 0), .ref (v 0), .ref (t 2), .ref (t 3), .ref (t 4), .ref (t 5), .ref (d 0), .ref (t 6), .ref (t 7)])), ((n 0), .inr (5, [.int 0, .int 0, .int 3, .int 8, .int 4, .int 4, .int 0, .int 0, .int 0, .int 0, .int 0, .ref (n 1), .ref (n 2), .ref (n 3), .ref (n 4), .ref (n 5)]))] s.heap := hP
  have hl := lv_entry ([.ref (t 0), .int a]) (n := 4) (Nat.le_of_ble_eq_true rfl)
  rw [lg_entry_eq]
  generalize (lg_sl ([.ref (t 0), .int a]) ++ List.replicate (4 - (lg_sl ([.ref (t 0), .int a])).length) Slot.unset).toArray = ls at hl ⊢
  have hl : lv_has ls 4 [(0, .ref (t 0)), (1, .int a)] := hl
  refine lv_aload_n hx hb dX7_burn_0 rfl (lv_at hl 0 rfl) ?_
  refine lv_iload_n hx hb dX7_burn_1 rfl (lv_at hl 1 rfl) ?_
  refine kV_i (q0 := 0) (As := [.int a]) (rest := []) (cs := [((t 0), .inr (6, [.ref (t 1), .int 0, .ref (n 0), .ref (v 0), .ref (t 2), .ref (t 3), .ref (t 4), .ref (t 5), .ref (d 0), .ref (t 6), .ref (t 7)])), ((n 0), .inr (5, [.int 0, .int 0, .int 3, .int 8, .int 4, .int 4, .int 0, .int 0, .int 0, .int 0, .int 0, .ref (n 1), .ref (n 2), .ref (n 3), .ref (n 4), .ref (n 5)]))]) ⟨hx, hb, hml, hown, hts⟩ (c_T_thatchRefusal l D k _ _ _ _ a) (gV mw_673 mw_674 mw_675 mw_2 mw_676) hd_yX7_thatchRefusal rfl rfl ⟨Nat.le_of_ble_eq_true rfl, Nat.le_of_ble_eq_true rfl⟩ hK (hP.sub (ws' := [((t 0), .inr (6, [.ref (t 1), .int 0, .ref (n 0), .ref (v 0), .ref (t 2), .ref (t 3), .ref (t 4), .ref (t 5), .ref (d 0), .ref (t 6), .ref (t 7)])), ((n 0), .inr (5, [.int 0, .int 0, .int 3, .int 8, .int 4, .int 4, .int 0, .int 0, .int 0, .int 0, .int 0, .ref (n 1), .ref (n 2), .ref (n 3), .ref (n 4), .ref (n 5)]))]) [0, 1] rfl) rfl rfl rfl rfl hl.1 rfl (Nat.le_of_ble_eq_true rfl) dX7_burn_2 ⟨Nat.le_of_ble_eq_true rfl, Nat.le_of_ble_eq_true rfl⟩ (fun r_1 hr_1 => ?_)
  obtain rfl : r_1 = (-2) := hr_1
  refine lv_istore_n (lv' := [(2, .int (-2)), (0, .ref (t 0)), (1, .int a)]) hx hb dX7_burn_5 rfl hl (by decide) rfl (fun ls hl => ?_)
  refine lv_iload_n hx hb dX7_burn_6 rfl (lv_at hl 0 rfl) ?_
  refine lv_if_eq (tgt := 12) hx hb dX7_burn_7 (by decide) (fun c9 => absurd c9 (by decide)) (fun _ => ?_)
  refine lv_iload_n hx hb dX7_burn_10 rfl (lv_at hl 0 rfl) ?_
  exact W.iret (v := (-2)) hx hb hr (fun t ht hW => ⟨(-2), rfl, rfl, ht⟩) (fun q h => by cases h) dX7_burn_11
set_option maxHeartbeats 4000000 in
set_option maxRecDepth 100000 in
theorem c_T_cat (l : Launch) (D : va_G) (k : Nat → ClassId) (t : Nat → Nat) (n : Nat → Nat) (v : Nat → Nat) (d : Nat → Nat) (a : Int32) : Met l yX7_cat (Cond.code yX7_cat cX7_cat 3 (some .int) :: wsL_law) ({ frames := 2, cells := 0, slots := 0, locals := 120 } : Room) (va_Pc [.ref (t 0), .int a] (pr D k [((t 0), .inr (6, [.ref (t 1), .int 0, .ref (n 0), .ref (v 0), .ref (t 2), .ref (t 3), .ref (t 4), .ref (t 5), .ref (d 0), .ref (t 6), .ref (t 7)])), ((n 0), .inr (5, [.int 0, .int 0, .int 3, .int 8, .int 4, .int 4, .int 0, .int 0, .int 0, .int 0, .int 0, .ref (n 1), .ref (n 2), .ref (n 3), .ref (n 4), .ref (n 5)]))])) (vp_Si (fun rr => rr = (-2))) 0 0 (fun _ => False) := by
  refine Met.ofW (cc := cX7_cat) (maxL := 3) (ret := (some .int)) (by decide) rfl ?_
  intro p e s m args below meth c s₁ B hml hv
  obtain ⟨rfl, hP, hK⟩ := hv
  have hx := B.exec
  have hb := B.bytes
  have hr := B.returns
  have hts : ∀ w ∈ wsL_law, w.before _ s = true := fun w h => atoms_spec (ws := Cond.code yX7_cat cX7_cat 3 (some .int) :: wsL_law) B.pre w (List.mem_cons_of_mem _ h)
  have hown : s.vm.findClass RX7 = some m.cls := findClass_of_methodNamed B.named
  have hlocks := B.notSynchronized
  have hP : va_P D vwCl [((t 0), .inr (6, [.ref (t 1), .int 0, .ref (n 0), .ref (v 0), .ref (t 2), .ref (t 3), .ref (t 4), .ref (t 5), .ref (d 0), .ref (t 6), .ref (t 7)])), ((n 0), .inr (5, [.int 0, .int 0, .int 3, .int 8, .int 4, .int 4, .int 0, .int 0, .int 0, .int 0, .int 0, .ref (n 1), .ref (n 2), .ref (n 3), .ref (n 4), .ref (n 5)]))] s.heap := hP
  have hl := lv_entry ([.ref (t 0), .int a]) (n := 3) (Nat.le_of_ble_eq_true rfl)
  rw [lg_entry_eq]
  generalize (lg_sl ([.ref (t 0), .int a]) ++ List.replicate (3 - (lg_sl ([.ref (t 0), .int a])).length) Slot.unset).toArray = ls at hl ⊢
  have hl : lv_has ls 3 [(0, .ref (t 0)), (1, .int a)] := hl
  refine lv_aload_n hx hb dX7_cat_0 rfl (lv_at hl 0 rfl) ?_
  refine lv_iload_n hx hb dX7_cat_1 rfl (lv_at hl 1 rfl) ?_
  refine kV_i (q0 := 0) (As := [.int a]) (rest := []) (cs := [((t 0), .inr (6, [.ref (t 1), .int 0, .ref (n 0), .ref (v 0), .ref (t 2), .ref (t 3), .ref (t 4), .ref (t 5), .ref (d 0), .ref (t 6), .ref (t 7)])), ((n 0), .inr (5, [.int 0, .int 0, .int 3, .int 8, .int 4, .int 4, .int 0, .int 0, .int 0, .int 0, .int 0, .ref (n 1), .ref (n 2), .ref (n 3), .ref (n 4), .ref (n 5)]))]) ⟨hx, hb, hml, hown, hts⟩ (c_T_thatchRefusal l D k _ _ _ _ a) (gV mw_673 mw_674 mw_675 mw_2 mw_676) hd_yX7_thatchRefusal rfl rfl ⟨Nat.le_of_ble_eq_true rfl, Nat.le_of_ble_eq_true rfl⟩ hK (hP.sub (ws' := [((t 0), .inr (6, [.ref (t 1), .int 0, .ref (n 0), .ref (v 0), .ref (t 2), .ref (t 3), .ref (t 4), .ref (t 5), .ref (d 0), .ref (t 6), .ref (t 7)])), ((n 0), .inr (5, [.int 0, .int 0, .int 3, .int 8, .int 4, .int 4, .int 0, .int 0, .int 0, .int 0, .int 0, .ref (n 1), .ref (n 2), .ref (n 3), .ref (n 4), .ref (n 5)]))]) [0, 1] rfl) rfl rfl rfl rfl hl.1 rfl (Nat.le_of_ble_eq_true rfl) dX7_cat_2 ⟨Nat.le_of_ble_eq_true rfl, Nat.le_of_ble_eq_true rfl⟩ (fun r_1 hr_1 => ?_)
  obtain rfl : r_1 = (-2) := hr_1
  refine lv_istore_n (lv' := [(2, .int (-2)), (0, .ref (t 0)), (1, .int a)]) hx hb dX7_cat_5 rfl hl (by decide) rfl (fun ls hl => ?_)
  refine lv_iload_n hx hb dX7_cat_6 rfl (lv_at hl 0 rfl) ?_
  refine lv_if_eq (tgt := 12) hx hb dX7_cat_7 (by decide) (fun c9 => absurd c9 (by decide)) (fun _ => ?_)
  refine lv_iload_n hx hb dX7_cat_10 rfl (lv_at hl 0 rfl) ?_
  exact W.iret (v := (-2)) hx hb hr (fun t ht hW => ⟨(-2), rfl, rfl, ht⟩) (fun q h => by cases h) dX7_cat_11
set_option maxHeartbeats 4000000 in
set_option maxRecDepth 100000 in
theorem c_T_year (l : Launch) (D : va_G) (k : Nat → ClassId) (t : Nat → Nat) (n : Nat → Nat) (v : Nat → Nat) (d : Nat → Nat) (a : Int32) (sz : Nat) : Met l yX7_year (Cond.code yX7_year cX7_year 2 (some .int) :: wsL_law) ({ frames := 3, cells := 0, slots := 0, locals := 180 } : Room) (va_Pc [.ref (t 0), .int a] (pu D k sz [((t 0), .inr (6, [.ref (t 1), .int 0, .ref (n 0), .ref (v 0), .ref (t 2), .ref (t 3), .ref (t 4), .ref (t 5), .ref (d 0), .ref (t 6), .ref (t 7)])), ((n 0), .inr (5, [.int 0, .int 0, .int 3, .int 8, .int 4, .int 4, .int 0, .int 0, .int 0, .int 0, .int 0, .ref (n 1), .ref (n 2), .ref (n 3), .ref (n 4), .ref (n 5)])), ((n 1), .inl (k 0, 10, .inl (fun _ => 0))), ((n 2), .inl (k 0, 10, .inl (fun _ => 0))), ((n 3), .inl (k 0, 60, .inl (fun _ => 0))), ((n 4), .inl (k 0, 10, .inl (fun _ => 0))), ((n 5), .inl (k 0, 60, .inl (fun _ => 0)))])) (va_Qi (fun rr (uu : Unit) => rr = if a.toInt = 0 then 0 else (-3)) (qu D (va_A [((t 0), .inr (6, [.ref (t 1), .int 0, .ref (n 0), .ref (v 0), .ref (t 2), .ref (t 3), .ref (t 4), .ref (t 5), .ref (d 0), .ref (t 6), .ref (t 7)])), ((n 0), .inr (5, [.int 0, .int 0, .int 3, .int 8, .int 4, .int 4, .int 0, .int 0, .int 0, .int 0, .int 0, .ref (n 1), .ref (n 2), .ref (n 3), .ref (n 4), .ref (n 5)])), ((n 1), .inl (k 0, 10, .inl (fun _ => 0))), ((n 2), .inl (k 0, 10, .inl (fun _ => 0))), ((n 3), .inl (k 0, 60, .inl (fun _ => 0))), ((n 4), .inl (k 0, 10, .inl (fun _ => 0))), ((n 5), .inl (k 0, 60, .inl (fun _ => 0)))] sz) (fun uu : Unit => [])) (va_A [((t 0), .inr (6, [.ref (t 1), .int 0, .ref (n 0), .ref (v 0), .ref (t 2), .ref (t 3), .ref (t 4), .ref (t 5), .ref (d 0), .ref (t 6), .ref (t 7)])), ((n 0), .inr (5, [.int 0, .int 0, .int 3, .int 8, .int 4, .int 4, .int 0, .int 0, .int 0, .int 0, .int 0, .ref (n 1), .ref (n 2), .ref (n 3), .ref (n 4), .ref (n 5)])), ((n 1), .inl (k 0, 10, .inl (fun _ => 0))), ((n 2), .inl (k 0, 10, .inl (fun _ => 0))), ((n 3), .inl (k 0, 60, .inl (fun _ => 0))), ((n 4), .inl (k 0, 10, .inl (fun _ => 0))), ((n 5), .inl (k 0, 60, .inl (fun _ => 0)))] sz)) 0 0 (va_A [((t 0), .inr (6, [.ref (t 1), .int 0, .ref (n 0), .ref (v 0), .ref (t 2), .ref (t 3), .ref (t 4), .ref (t 5), .ref (d 0), .ref (t 6), .ref (t 7)])), ((n 0), .inr (5, [.int 0, .int 0, .int 3, .int 8, .int 4, .int 4, .int 0, .int 0, .int 0, .int 0, .int 0, .ref (n 1), .ref (n 2), .ref (n 3), .ref (n 4), .ref (n 5)])), ((n 1), .inl (k 0, 10, .inl (fun _ => 0))), ((n 2), .inl (k 0, 10, .inl (fun _ => 0))), ((n 3), .inl (k 0, 60, .inl (fun _ => 0))), ((n 4), .inl (k 0, 10, .inl (fun _ => 0))), ((n 5), .inl (k 0, 60, .inl (fun _ => 0)))] sz) := by
  refine Met.ofW (cc := cX7_year) (maxL := 2) (ret := (some .int)) (by decide) rfl ?_
  intro p e s m args below meth c s₁ B hml hv
  obtain ⟨rfl, hsz, hP, hK, hD0⟩ := hv
  have hx := B.exec
  have hb := B.bytes
  have hr := B.returns
  have hts : ∀ w ∈ wsL_law, w.before _ s = true := fun w h => atoms_spec (ws := Cond.code yX7_year cX7_year 2 (some .int) :: wsL_law) B.pre w (List.mem_cons_of_mem _ h)
  have hown : s.vm.findClass RX7 = some m.cls := findClass_of_methodNamed B.named
  have hlocks := B.notSynchronized
  subst hsz
  have hD := hD0.self (sz := s.heap.size)
  generalize hAe : va_A [((t 0), .inr (6, [.ref (t 1), .int 0, .ref (n 0), .ref (v 0), .ref (t 2), .ref (t 3), .ref (t 4), .ref (t 5), .ref (d 0), .ref (t 6), .ref (t 7)])), ((n 0), .inr (5, [.int 0, .int 0, .int 3, .int 8, .int 4, .int 4, .int 0, .int 0, .int 0, .int 0, .int 0, .ref (n 1), .ref (n 2), .ref (n 3), .ref (n 4), .ref (n 5)])), ((n 1), .inl (k 0, 10, .inl (fun _ => 0))), ((n 2), .inl (k 0, 10, .inl (fun _ => 0))), ((n 3), .inl (k 0, 60, .inl (fun _ => 0))), ((n 4), .inl (k 0, 10, .inl (fun _ => 0))), ((n 5), .inl (k 0, 60, .inl (fun _ => 0)))] s.heap.size = A at hD ⊢
  have hA : ∀ q : Nat, s.heap.size ≤ q → A q := fun q h => by rw [← hAe]; exact Or.inr h
  have hS : va_S A s.heap s.heap [] := va_S.rf
  have hP : va_P D vwCl [((t 0), .inr (6, [.ref (t 1), .int 0, .ref (n 0), .ref (v 0), .ref (t 2), .ref (t 3), .ref (t 4), .ref (t 5), .ref (d 0), .ref (t 6), .ref (t 7)])), ((n 0), .inr (5, [.int 0, .int 0, .int 3, .int 8, .int 4, .int 4, .int 0, .int 0, .int 0, .int 0, .int 0, .ref (n 1), .ref (n 2), .ref (n 3), .ref (n 4), .ref (n 5)])), ((n 1), .inl (k 0, 10, .inl (fun _ => 0))), ((n 2), .inl (k 0, 10, .inl (fun _ => 0))), ((n 3), .inl (k 0, 60, .inl (fun _ => 0))), ((n 4), .inl (k 0, 10, .inl (fun _ => 0))), ((n 5), .inl (k 0, 60, .inl (fun _ => 0)))] s.heap := hP
  have hl := lv_entry ([.ref (t 0), .int a]) (n := 2) (Nat.le_of_ble_eq_true rfl)
  rw [lg_entry_eq]
  generalize (lg_sl ([.ref (t 0), .int a]) ++ List.replicate (2 - (lg_sl ([.ref (t 0), .int a])).length) Slot.unset).toArray = ls at hl ⊢
  have hl : lv_has ls 2 [(0, .ref (t 0)), (1, .int a)] := hl
  refine lv_aload_n hx hb dX7_year_0 rfl (lv_at hl 0 rfl) ?_
  refine va_get (D := D) (ci := 6) (v := .ref (n 0)) (C := RX7) (T := TX7) (N := 11) hx hb hts inlX7 hown hK hP 0 rfl rfl 2 (by decide) (hts _ mw_20) (fun _ h9 => h9) rfl dX7_year_1 ?_
  refine lv_iload_n hx hb dX7_year_4 rfl (lv_at hl 1 rfl) ?_
  refine kV_i (q0 := 0) (As := [.int a]) (rest := []) (cs := [((n 0), .inr (5, [.int 0, .int 0, .int 3, .int 8, .int 4, .int 4, .int 0, .int 0, .int 0, .int 0, .int 0, .ref (n 1), .ref (n 2), .ref (n 3), .ref (n 4), .ref (n 5)]))]) ⟨hx, hb, hml, hown, hts⟩ (c_W_maySkip l D k n a) (gV mw_465 mw_466 mw_467 mw_19 mw_468) hd_yX6_maySkip rfl rfl ⟨Nat.le_of_ble_eq_true rfl, Nat.le_of_ble_eq_true rfl⟩ hK (hP.sub (ws' := [((n 0), .inr (5, [.int 0, .int 0, .int 3, .int 8, .int 4, .int 4, .int 0, .int 0, .int 0, .int 0, .int 0, .ref (n 1), .ref (n 2), .ref (n 3), .ref (n 4), .ref (n 5)]))]) [1] rfl) rfl rfl rfl rfl hl.1 rfl (Nat.le_of_ble_eq_true rfl) dX7_year_5 ⟨Nat.le_of_ble_eq_true rfl, Nat.le_of_ble_eq_true rfl⟩ (fun r_1 hr_1 => ?_)
  by_cases hc_2 : a.toInt = 0
  · obtain rfl : r_1 = 1 := hr_1.trans (if_pos hc_2)
    have q_3 : a = 0 := ti_of (show a.toInt = 0 from by omega)
    refine lv_if_ne (tgt := 14) hx hb dX7_year_8 (by decide) (fun _ => ?_) (fun c9 => absurd c9 (by decide))
    refine lv_aload_n hx hb dX7_year_14 rfl (lv_at hl 0 rfl) ?_
    refine va_get (D := D) (ci := 6) (v := .ref (n 0)) (C := RX7) (T := TX7) (N := 11) hx hb hts inlX7 hown hK hP 0 rfl rfl 2 (by decide) (hts _ mw_20) (fun _ h9 => h9) rfl dX7_year_15 ?_
    refine va_get (D := D) (ci := 5) (v := .int 0) (C := RX6) (T := TX6) (N := 16) hx hb hts inlX6 hown hK hP 1 rfl rfl 1 (by decide) (hts _ mw_464) (fun _ h9 => h9) rfl dX7_year_18 ?_
    refine lv_sipush (v := 999) hx hb dX7_year_21 (by decide) ?_
    refine lv_icmp_lt (tgt := 30) hx hb dX7_year_24 (by decide) (fun _ => ?_) (fun c9 => absurd c9 (by decide))
    refine lv_aload_n hx hb dX7_year_30 rfl (lv_at hl 0 rfl) ?_
    refine va_get (D := D) (ci := 6) (v := .ref (n 0)) (C := RX7) (T := TX7) (N := 11) hx hb hts inlX7 hown hK hP 0 rfl rfl 2 (by decide) (hts _ mw_20) (fun _ h9 => h9) rfl dX7_year_31 ?_
    refine lv_iload_n hx hb dX7_year_34 rfl (lv_at hl 1 rfl) ?_
    refine lv_ni (v := 0) (q_3) ?_
    refine kV_uv (q0 := 0) (As := [.int 0]) (rest := []) (wc := [((n 0), .inr (5, [.int 0, .int 0, .int 3, .int 8, .int 4, .int 4, .int 0, .int 0, .int 0, .int 0, .int 0, .ref (n 1), .ref (n 2), .ref (n 3), .ref (n 4), .ref (n 5)])), ((n 1), .inl (k 0, 10, .inl (fun _ => 0))), ((n 2), .inl (k 0, 10, .inl (fun _ => 0))), ((n 3), .inl (k 0, 60, .inl (fun _ => 0))), ((n 4), .inl (k 0, 10, .inl (fun _ => 0))), ((n 5), .inl (k 0, 60, .inl (fun _ => 0)))]) (wr := [((t 0), .inr (6, [.ref (t 1), .int 0, .ref (n 0), .ref (v 0), .ref (t 2), .ref (t 3), .ref (t 4), .ref (t 5), .ref (d 0), .ref (t 6), .ref (t 7)]))]) ⟨hx, hb, hml, hown, hts⟩ (c_W_passYear l D k n 0 0 _) (gV mw_478 mw_479 mw_480 mw_19 mw_481) hd_yX6_passYear rfl rfl ⟨Nat.le_of_ble_eq_true rfl, Nat.le_of_ble_eq_true rfl⟩ hK hP hD hS hA [1, 2, 3, 4, 5, 6] [0] rfl rfl (by decide) (by decide) (by decide) rfl rfl rfl rfl hl.1 rfl (Nat.le_of_ble_eq_true rfl) dX7_year_35 ⟨Nat.le_of_ble_eq_true rfl, Nat.le_of_ble_eq_true rfl⟩ (fun u_5 H locs hw hP hD hS => ?_)
    obtain ⟨v_6, rfl⟩ : ∃ z, z = u_5 := ⟨_, rfl⟩
    have hP : va_P D vwCl [((t 0), .inr (6, [.ref (t 1), .int 0, .ref (n 0), .ref (v 0), .ref (t 2), .ref (t 3), .ref (t 4), .ref (t 5), .ref (d 0), .ref (t 6), .ref (t 7)])), ((n 0), .inr (5, [.int 0, .int v_6, .int 3, .int 8, .int 4, .int 4, .int 0, .int 0, .int 0, .int 0, .int 0, .ref (n 1), .ref (n 2), .ref (n 3), .ref (n 4), .ref (n 5)])), ((n 1), .inl (k 0, 10, .inl (fun _ => 0))), ((n 2), .inl (k 0, 10, .inl (fun _ => 0))), ((n 3), .inl (k 0, 60, .inl (fun _ => 0))), ((n 4), .inl (k 0, 10, .inl (fun _ => 0))), ((n 5), .inl (k 0, 60, .inl (fun _ => 0)))] H := hP
    have hD : va_D A [((t 0), .inr (6, [.ref (t 1), .int 0, .ref (n 0), .ref (v 0), .ref (t 2), .ref (t 3), .ref (t 4), .ref (t 5), .ref (d 0), .ref (t 6), .ref (t 7)])), ((n 0), .inr (5, [.int 0, .int v_6, .int 3, .int 8, .int 4, .int 4, .int 0, .int 0, .int 0, .int 0, .int 0, .ref (n 1), .ref (n 2), .ref (n 3), .ref (n 4), .ref (n 5)])), ((n 1), .inl (k 0, 10, .inl (fun _ => 0))), ((n 2), .inl (k 0, 10, .inl (fun _ => 0))), ((n 3), .inl (k 0, 60, .inl (fun _ => 0))), ((n 4), .inl (k 0, 10, .inl (fun _ => 0))), ((n 5), .inl (k 0, 60, .inl (fun _ => 0)))] := hD
    refine lv_aload_n hx hb dX7_year_38 rfl (lv_at hl 0 rfl) ?_
    refine va_get (D := D) (ci := 6) (v := .ref (n 0)) (C := RX7) (T := TX7) (N := 11) hx hb hts inlX7 hown hK hP 0 rfl rfl 2 (by decide) (hts _ mw_20) (fun _ h9 => h9) rfl dX7_year_39 ?_
    refine kV_i (q0 := 0) (As := []) (rest := []) (cs := [((n 0), .inr (5, [.int 0, .int v_6, .int 3, .int 8, .int 4, .int 4, .int 0, .int 0, .int 0, .int 0, .int 0, .ref (n 1), .ref (n 2), .ref (n 3), .ref (n 4), .ref (n 5)]))]) ⟨hx, hb, hml, hown, hts⟩ (c_W_leaking l D k n v_6) (gV mw_506 mw_507 mw_508 mw_19 mw_509) hd_yX6_leaking rfl rfl ⟨Nat.le_of_ble_eq_true rfl, Nat.le_of_ble_eq_true rfl⟩ hK (hP.sub (ws' := [((n 0), .inr (5, [.int 0, .int v_6, .int 3, .int 8, .int 4, .int 4, .int 0, .int 0, .int 0, .int 0, .int 0, .ref (n 1), .ref (n 2), .ref (n 3), .ref (n 4), .ref (n 5)]))]) [1] rfl) rfl rfl rfl rfl hl.1 rfl (Nat.le_of_ble_eq_true rfl) dX7_year_42 ⟨Nat.le_of_ble_eq_true rfl, Nat.le_of_ble_eq_true rfl⟩ (fun r_7 hr_7 => ?_)
    obtain rfl : r_7 = 0 := hr_7
    have hP9 := hP.sub (ws' := []) [] rfl
    have hD9 := hD.sub (ws' := []) [] (by decide) rfl
    exact W.iret (v := 0) hx hb hr (fun t ht hW => ⟨⟨0, (), rfl, (by (repeat' split) <;> first | rfl | (exfalso; omega)), by rw [ht]; exact hP9, hD9⟩, hS.F ht⟩) hS.2.2 dX7_year_45
  have hr_1 := hr_1.trans (if_neg hc_2)
  obtain rfl : r_1 = 0 := hr_1
  refine lv_if_ne (tgt := 14) hx hb dX7_year_8 (by decide) (fun c9 => absurd c9 (by decide)) (fun _ => ?_)
  refine lv_bipush (v := (-3)) hx hb dX7_year_11 (by decide) ?_
  have hP9 := hP.sub (ws' := []) [] rfl
  have hD9 := hD.sub (ws' := []) [] (by decide) rfl
  exact W.iret (v := (-3)) hx hb hr (fun t ht hW => ⟨⟨(-3), (), rfl, (by (repeat' split) <;> first | rfl | (exfalso; omega)), by rw [ht]; exact hP9, hD9⟩, hS.F ht⟩) hS.2.2 dX7_year_13
set_option maxHeartbeats 4000000 in
set_option maxRecDepth 100000 in
theorem c_T_rain (l : Launch) (D : va_G) (k : Nat → ClassId) (t : Nat → Nat) (n : Nat → Nat) (v : Nat → Nat) (d : Nat → Nat) : Met l yX7_rain (Cond.code yX7_rain cX7_rain 1 (some .int) :: wsL_law) ({ frames := 1, cells := 0, slots := 0, locals := 60 } : Room) (va_Pc [.ref (t 0)] (pr D k [((t 0), .inr (6, [.ref (t 1), .int 0, .ref (n 0), .ref (v 0), .ref (t 2), .ref (t 3), .ref (t 4), .ref (t 5), .ref (d 0), .ref (t 6), .ref (t 7)])), ((n 0), .inr (5, [.int 0, .int 0, .int 3, .int 8, .int 4, .int 4, .int 0, .int 0, .int 0, .int 0, .int 0, .ref (n 1), .ref (n 2), .ref (n 3), .ref (n 4), .ref (n 5)]))])) (vp_Si (fun rr => rr = 0)) 0 0 (fun _ => False) := by
  refine Met.ofW (cc := cX7_rain) (maxL := 1) (ret := (some .int)) (by decide) rfl ?_
  intro p e s m args below meth c s₁ B hml hv
  obtain ⟨rfl, hP, hK⟩ := hv
  have hx := B.exec
  have hb := B.bytes
  have hr := B.returns
  have hts : ∀ w ∈ wsL_law, w.before _ s = true := fun w h => atoms_spec (ws := Cond.code yX7_rain cX7_rain 1 (some .int) :: wsL_law) B.pre w (List.mem_cons_of_mem _ h)
  have hown : s.vm.findClass RX7 = some m.cls := findClass_of_methodNamed B.named
  have hlocks := B.notSynchronized
  have hP : va_P D vwCl [((t 0), .inr (6, [.ref (t 1), .int 0, .ref (n 0), .ref (v 0), .ref (t 2), .ref (t 3), .ref (t 4), .ref (t 5), .ref (d 0), .ref (t 6), .ref (t 7)])), ((n 0), .inr (5, [.int 0, .int 0, .int 3, .int 8, .int 4, .int 4, .int 0, .int 0, .int 0, .int 0, .int 0, .ref (n 1), .ref (n 2), .ref (n 3), .ref (n 4), .ref (n 5)]))] s.heap := hP
  have hl := lv_entry ([.ref (t 0)]) (n := 1) (Nat.le_of_ble_eq_true rfl)
  rw [lg_entry_eq]
  generalize (lg_sl ([.ref (t 0)]) ++ List.replicate (1 - (lg_sl ([.ref (t 0)])).length) Slot.unset).toArray = ls at hl ⊢
  have hl : lv_has ls 1 [(0, .ref (t 0))] := hl
  refine lv_aload_n hx hb dX7_rain_0 rfl (lv_at hl 0 rfl) ?_
  refine va_get (D := D) (ci := 6) (v := .ref (n 0)) (C := RX7) (T := TX7) (N := 11) hx hb hts inlX7 hown hK hP 0 rfl rfl 2 (by decide) (hts _ mw_20) (fun _ h9 => h9) rfl dX7_rain_1 ?_
  refine kV_i (q0 := 0) (As := []) (rest := []) (cs := [((n 0), .inr (5, [.int 0, .int 0, .int 3, .int 8, .int 4, .int 4, .int 0, .int 0, .int 0, .int 0, .int 0, .ref (n 1), .ref (n 2), .ref (n 3), .ref (n 4), .ref (n 5)]))]) ⟨hx, hb, hml, hown, hts⟩ (c_W_rainDown l D k n 0) (gV mw_552 mw_553 mw_554 mw_19 mw_555) hd_yX6_rainDown rfl rfl ⟨Nat.le_of_ble_eq_true rfl, Nat.le_of_ble_eq_true rfl⟩ hK (hP.sub (ws' := [((n 0), .inr (5, [.int 0, .int 0, .int 3, .int 8, .int 4, .int 4, .int 0, .int 0, .int 0, .int 0, .int 0, .ref (n 1), .ref (n 2), .ref (n 3), .ref (n 4), .ref (n 5)]))]) [1] rfl) rfl rfl rfl rfl hl.1 rfl (Nat.le_of_ble_eq_true rfl) dX7_rain_4 ⟨Nat.le_of_ble_eq_true rfl, Nat.le_of_ble_eq_true rfl⟩ (fun r_1 hr_1 => ?_)
  obtain rfl : r_1 = 0 := hr_1
  exact W.iret (v := 0) hx hb hr (fun t ht hW => ⟨0, rfl, rfl, ht⟩) (fun q h => by cases h) dX7_rain_7
set_option maxHeartbeats 4000000 in
set_option maxRecDepth 100000 in
theorem c_T_judge (l : Launch) (D : va_G) (k : Nat → ClassId) (t : Nat → Nat) (n : Nat → Nat) (v : Nat → Nat) (d : Nat → Nat) (b : Nat → Nat) (a : Int32) (x : Int32) : Met l yX7_judge (Cond.code yX7_judge cX7_judge 5 (some .int) :: wsL_law) ({ frames := 1, cells := 0, slots := 0, locals := 60 } : Room) (va_Pc [.ref (t 0), .int a, .int x] (pr D k [((t 0), .inr (6, [.ref (t 1), .int 0, .ref (n 0), .ref (v 0), .ref (t 2), .ref (t 3), .ref (t 4), .ref (t 5), .ref (d 0), .ref (t 6), .ref (t 7)])), ((t 4), .inl (k 5, 4, .inr (.inr (.inr (.inr (va_rs [(b 0), (b 1), (b 2), (b 3)])))))), ((b 0), .inr (2, [.int 0, .int 0, .ref (b 4), .int 0])), ((b 1), .inr (2, [.int 0, .int 0, .ref (b 5), .int 0])), ((b 2), .inr (2, [.int 0, .int 0, .ref (b 6), .int 0])), ((b 3), .inr (2, [.int 0, .int 0, .ref (b 7), .int 0]))])) (vp_Si (fun rr => rr = if (0 ≤ a.toInt ∧ a.toInt ≤ 3) ∧ 0 ≤ x.toInt ∧ x.toInt ≤ 3 then (-6) else (-2))) 0 0 (fun _ => False) := by
  refine Met.ofW (cc := cX7_judge) (maxL := 5) (ret := (some .int)) (by decide) rfl ?_
  intro p e s m args below meth c s₁ B hml hv
  obtain ⟨rfl, hP, hK⟩ := hv
  have hx := B.exec
  have hb := B.bytes
  have hr := B.returns
  have hts : ∀ w ∈ wsL_law, w.before _ s = true := fun w h => atoms_spec (ws := Cond.code yX7_judge cX7_judge 5 (some .int) :: wsL_law) B.pre w (List.mem_cons_of_mem _ h)
  have hown : s.vm.findClass RX7 = some m.cls := findClass_of_methodNamed B.named
  have hlocks := B.notSynchronized
  have hP : va_P D vwCl [((t 0), .inr (6, [.ref (t 1), .int 0, .ref (n 0), .ref (v 0), .ref (t 2), .ref (t 3), .ref (t 4), .ref (t 5), .ref (d 0), .ref (t 6), .ref (t 7)])), ((t 4), .inl (k 5, 4, .inr (.inr (.inr (.inr (va_rs [(b 0), (b 1), (b 2), (b 3)])))))), ((b 0), .inr (2, [.int 0, .int 0, .ref (b 4), .int 0])), ((b 1), .inr (2, [.int 0, .int 0, .ref (b 5), .int 0])), ((b 2), .inr (2, [.int 0, .int 0, .ref (b 6), .int 0])), ((b 3), .inr (2, [.int 0, .int 0, .ref (b 7), .int 0]))] s.heap := hP
  have hl := lv_entry ([.ref (t 0), .int a, .int x]) (n := 5) (Nat.le_of_ble_eq_true rfl)
  rw [lg_entry_eq]
  generalize (lg_sl ([.ref (t 0), .int a, .int x]) ++ List.replicate (5 - (lg_sl ([.ref (t 0), .int a, .int x])).length) Slot.unset).toArray = ls at hl ⊢
  have hl : lv_has ls 5 [(0, .ref (t 0)), (1, .int a), (2, .int x)] := hl
  refine lv_iload_n hx hb dX7_judge_0 rfl (lv_at hl 1 rfl) ?_
  refine kS_i (As := [.int a]) (rest := []) (cs := []) ⟨hx, hb, hml, hown, hts⟩ (c_T_isRow l D k a) (gS mw_573 mw_574 mw_2 mw_575) hd_yX7_isRow rfl rfl ⟨Nat.le_of_ble_eq_true rfl, Nat.le_of_ble_eq_true rfl⟩ hK (hP.sub (ws' := []) [] rfl) rfl hl.1 rfl (Nat.le_of_ble_eq_true rfl) dX7_judge_1 ⟨Nat.le_of_ble_eq_true rfl, Nat.le_of_ble_eq_true rfl⟩ (fun r_1 hr_1 => ?_)
  by_cases hc_2 : 0 ≤ a.toInt ∧ a.toInt ≤ 3
  · obtain rfl : r_1 = 1 := hr_1.trans (if_pos hc_2)
    refine lv_if_eq (tgt := 16) hx hb dX7_judge_4 (by decide) (fun c9 => absurd c9 (by decide)) (fun _ => ?_)
    refine lv_iload_n hx hb dX7_judge_7 rfl (lv_at hl 2 rfl) ?_
    refine lv_if_lt (tgt := 16) hx hb dX7_judge_8 (by decide) (fun c_3 => ?_) (fun c_3 => ?_)
    · have c_3 : x.toInt < 0 := ti_lt c_3
      refine lv_bipush (v := (-2)) hx hb dX7_judge_16 (by decide) ?_
      exact W.iret (v := (-2)) hx hb hr (fun t ht hW => ⟨(-2), rfl, (by (repeat' split) <;> first | rfl | (exfalso; omega)), ht⟩) (fun q h => by cases h) dX7_judge_18
    · have c_3 : 0 ≤ x.toInt := ti_nlt c_3
      refine lv_iload_n hx hb dX7_judge_11 rfl (lv_at hl 2 rfl) ?_
      refine lv_iconst (v := 3) hx hb dX7_judge_12 (by decide) ?_
      refine lv_icmp_le (tgt := 19) hx hb dX7_judge_13 (by decide) (fun c_4 => ?_) (fun c_4 => ?_)
      · have c_4 : x.toInt ≤ 3 := ti_le c_4
        refine lv_aload_n hx hb dX7_judge_19 rfl (lv_at hl 0 rfl) ?_
        refine va_get (D := D) (ci := 6) (v := .ref (t 4)) (C := RX7) (T := TX7) (N := 11) hx hb hts inlX7 hown hK hP 0 rfl rfl 6 (by decide) (hts _ mw_26) (fun _ h9 => h9) rfl dX7_judge_20 ?_
        refine lv_iload_n hx hb dX7_judge_23 rfl (lv_at hl 1 rfl) ?_
        rcases (show a.toInt = 0 ∨ a.toInt = 1 ∨ a.toInt = 2 ∨ a.toInt = 3 from by omega) with c_5 | c_6 | c_7 | c_8
        · have qc_5 : a = 0 := ti_of (show a.toInt = 0 from c_5)
          refine lv_ni (v := 0) qc_5 ?_
          refine va_aldq hx hb hK hP 1 5 rfl rfl (vp_in_c (by decide)) dX7_judge_24 ?_
          refine lv_nv (v := .ref (b 0)) (rfl) ?_
          refine lv_astore_n (lv' := [(3, .ref (b 0)), (0, .ref (t 0)), (1, .int a), (2, .int x)]) hx hb dX7_judge_25 rfl hl (by decide) rfl (fun ls hl => ?_)
          refine lv_aload_n hx hb dX7_judge_26 rfl (lv_at hl 0 rfl) ?_
          refine va_get (D := D) (ci := 2) (v := .int 0) (C := RX3) (T := TX3) (N := 4) hx hb hts inlX3 hown hK hP 2 rfl rfl 0 (by decide) (hts _ mw_570) (fun _ h9 => h9) rfl dX7_judge_27 ?_
          refine lv_if_ne (tgt := 36) hx hb dX7_judge_30 (by decide) (fun c9 => absurd c9 (by decide)) (fun _ => ?_)
          refine lv_bipush (v := (-6)) hx hb dX7_judge_33 (by decide) ?_
          exact W.iret (v := (-6)) hx hb hr (fun t ht hW => ⟨(-6), rfl, (by (repeat' split) <;> first | rfl | (exfalso; omega)), ht⟩) (fun q h => by cases h) dX7_judge_35
        · have qc_6 : a = 1 := ti_of (show a.toInt = 1 from c_6)
          refine lv_ni (v := 1) qc_6 ?_
          refine va_aldq hx hb hK hP 1 5 rfl rfl (vp_in_c (by decide)) dX7_judge_24 ?_
          refine lv_nv (v := .ref (b 1)) (rfl) ?_
          refine lv_astore_n (lv' := [(3, .ref (b 1)), (0, .ref (t 0)), (1, .int a), (2, .int x)]) hx hb dX7_judge_25 rfl hl (by decide) rfl (fun ls hl => ?_)
          refine lv_aload_n hx hb dX7_judge_26 rfl (lv_at hl 0 rfl) ?_
          refine va_get (D := D) (ci := 2) (v := .int 0) (C := RX3) (T := TX3) (N := 4) hx hb hts inlX3 hown hK hP 3 rfl rfl 0 (by decide) (hts _ mw_570) (fun _ h9 => h9) rfl dX7_judge_27 ?_
          refine lv_if_ne (tgt := 36) hx hb dX7_judge_30 (by decide) (fun c9 => absurd c9 (by decide)) (fun _ => ?_)
          refine lv_bipush (v := (-6)) hx hb dX7_judge_33 (by decide) ?_
          exact W.iret (v := (-6)) hx hb hr (fun t ht hW => ⟨(-6), rfl, (by (repeat' split) <;> first | rfl | (exfalso; omega)), ht⟩) (fun q h => by cases h) dX7_judge_35
        · have qc_7 : a = 2 := ti_of (show a.toInt = 2 from c_7)
          refine lv_ni (v := 2) qc_7 ?_
          refine va_aldq hx hb hK hP 1 5 rfl rfl (vp_in_c (by decide)) dX7_judge_24 ?_
          refine lv_nv (v := .ref (b 2)) (rfl) ?_
          refine lv_astore_n (lv' := [(3, .ref (b 2)), (0, .ref (t 0)), (1, .int a), (2, .int x)]) hx hb dX7_judge_25 rfl hl (by decide) rfl (fun ls hl => ?_)
          refine lv_aload_n hx hb dX7_judge_26 rfl (lv_at hl 0 rfl) ?_
          refine va_get (D := D) (ci := 2) (v := .int 0) (C := RX3) (T := TX3) (N := 4) hx hb hts inlX3 hown hK hP 4 rfl rfl 0 (by decide) (hts _ mw_570) (fun _ h9 => h9) rfl dX7_judge_27 ?_
          refine lv_if_ne (tgt := 36) hx hb dX7_judge_30 (by decide) (fun c9 => absurd c9 (by decide)) (fun _ => ?_)
          refine lv_bipush (v := (-6)) hx hb dX7_judge_33 (by decide) ?_
          exact W.iret (v := (-6)) hx hb hr (fun t ht hW => ⟨(-6), rfl, (by (repeat' split) <;> first | rfl | (exfalso; omega)), ht⟩) (fun q h => by cases h) dX7_judge_35
        · have qc_8 : a = 3 := ti_of (show a.toInt = 3 from c_8)
          refine lv_ni (v := 3) qc_8 ?_
          refine va_aldq hx hb hK hP 1 5 rfl rfl (vp_in_c (by decide)) dX7_judge_24 ?_
          refine lv_nv (v := .ref (b 3)) (rfl) ?_
          refine lv_astore_n (lv' := [(3, .ref (b 3)), (0, .ref (t 0)), (1, .int a), (2, .int x)]) hx hb dX7_judge_25 rfl hl (by decide) rfl (fun ls hl => ?_)
          refine lv_aload_n hx hb dX7_judge_26 rfl (lv_at hl 0 rfl) ?_
          refine va_get (D := D) (ci := 2) (v := .int 0) (C := RX3) (T := TX3) (N := 4) hx hb hts inlX3 hown hK hP 5 rfl rfl 0 (by decide) (hts _ mw_570) (fun _ h9 => h9) rfl dX7_judge_27 ?_
          refine lv_if_ne (tgt := 36) hx hb dX7_judge_30 (by decide) (fun c9 => absurd c9 (by decide)) (fun _ => ?_)
          refine lv_bipush (v := (-6)) hx hb dX7_judge_33 (by decide) ?_
          exact W.iret (v := (-6)) hx hb hr (fun t ht hW => ⟨(-6), rfl, (by (repeat' split) <;> first | rfl | (exfalso; omega)), ht⟩) (fun q h => by cases h) dX7_judge_35
      · have c_4 : 3 < x.toInt := ti_nle c_4
        refine lv_bipush (v := (-2)) hx hb dX7_judge_16 (by decide) ?_
        exact W.iret (v := (-2)) hx hb hr (fun t ht hW => ⟨(-2), rfl, (by (repeat' split) <;> first | rfl | (exfalso; omega)), ht⟩) (fun q h => by cases h) dX7_judge_18
  have hr_1 := hr_1.trans (if_neg hc_2)
  obtain rfl : r_1 = 0 := hr_1
  refine lv_if_eq (tgt := 16) hx hb dX7_judge_4 (by decide) (fun _ => ?_) (fun c9 => absurd c9 (by decide))
  refine lv_bipush (v := (-2)) hx hb dX7_judge_16 (by decide) ?_
  exact W.iret (v := (-2)) hx hb hr (fun t ht hW => ⟨(-2), rfl, (by (repeat' split) <;> first | rfl | (exfalso; omega)), ht⟩) (fun q h => by cases h) dX7_judge_18
set_option maxHeartbeats 4000000 in
set_option maxRecDepth 100000 in
theorem c_T_perform (l : Launch) (D : va_G) (k : Nat → ClassId) (t : Nat → Nat) (n : Nat → Nat) (v : Nat → Nat) (d : Nat → Nat) (b : Nat → Nat) (a : Int32) : Met l yX7_perform (Cond.code yX7_perform cX7_perform 2 (some .int) :: wsL_law) ({ frames := 1, cells := 0, slots := 0, locals := 60 } : Room) (va_Pc [.ref (t 0), .int a] (pr D k [((t 0), .inr (6, [.ref (t 1), .int 0, .ref (n 0), .ref (v 0), .ref (t 2), .ref (t 3), .ref (t 4), .ref (t 5), .ref (d 0), .ref (t 6), .ref (t 7)])), ((t 4), .inl (k 5, 4, .inr (.inr (.inr (.inr (va_rs [(b 0), (b 1), (b 2), (b 3)])))))), ((b 0), .inr (2, [.int 0, .int 0, .ref (b 4), .int 0])), ((b 1), .inr (2, [.int 0, .int 0, .ref (b 5), .int 0])), ((b 2), .inr (2, [.int 0, .int 0, .ref (b 6), .int 0])), ((b 3), .inr (2, [.int 0, .int 0, .ref (b 7), .int 0]))])) (vp_Si (fun rr => rr = if 0 ≤ a.toInt ∧ a.toInt ≤ 3 then (-6) else (-2))) 0 0 (fun _ => False) := by
  refine Met.ofW (cc := cX7_perform) (maxL := 2) (ret := (some .int)) (by decide) rfl ?_
  intro p e s m args below meth c s₁ B hml hv
  obtain ⟨rfl, hP, hK⟩ := hv
  have hx := B.exec
  have hb := B.bytes
  have hr := B.returns
  have hts : ∀ w ∈ wsL_law, w.before _ s = true := fun w h => atoms_spec (ws := Cond.code yX7_perform cX7_perform 2 (some .int) :: wsL_law) B.pre w (List.mem_cons_of_mem _ h)
  have hown : s.vm.findClass RX7 = some m.cls := findClass_of_methodNamed B.named
  have hlocks := B.notSynchronized
  have hP : va_P D vwCl [((t 0), .inr (6, [.ref (t 1), .int 0, .ref (n 0), .ref (v 0), .ref (t 2), .ref (t 3), .ref (t 4), .ref (t 5), .ref (d 0), .ref (t 6), .ref (t 7)])), ((t 4), .inl (k 5, 4, .inr (.inr (.inr (.inr (va_rs [(b 0), (b 1), (b 2), (b 3)])))))), ((b 0), .inr (2, [.int 0, .int 0, .ref (b 4), .int 0])), ((b 1), .inr (2, [.int 0, .int 0, .ref (b 5), .int 0])), ((b 2), .inr (2, [.int 0, .int 0, .ref (b 6), .int 0])), ((b 3), .inr (2, [.int 0, .int 0, .ref (b 7), .int 0]))] s.heap := hP
  have hl := lv_entry ([.ref (t 0), .int a]) (n := 2) (Nat.le_of_ble_eq_true rfl)
  rw [lg_entry_eq]
  generalize (lg_sl ([.ref (t 0), .int a]) ++ List.replicate (2 - (lg_sl ([.ref (t 0), .int a])).length) Slot.unset).toArray = ls at hl ⊢
  have hl : lv_has ls 2 [(0, .ref (t 0)), (1, .int a)] := hl
  refine lv_iload_n hx hb dX7_perform_0 rfl (lv_at hl 1 rfl) ?_
  refine kS_i (As := [.int a]) (rest := []) (cs := []) ⟨hx, hb, hml, hown, hts⟩ (c_T_isRow l D k a) (gS mw_573 mw_574 mw_2 mw_575) hd_yX7_isRow rfl rfl ⟨Nat.le_of_ble_eq_true rfl, Nat.le_of_ble_eq_true rfl⟩ hK (hP.sub (ws' := []) [] rfl) rfl hl.1 rfl (Nat.le_of_ble_eq_true rfl) dX7_perform_1 ⟨Nat.le_of_ble_eq_true rfl, Nat.le_of_ble_eq_true rfl⟩ (fun r_1 hr_1 => ?_)
  by_cases hc_2 : 0 ≤ a.toInt ∧ a.toInt ≤ 3
  · obtain rfl : r_1 = 1 := hr_1.trans (if_pos hc_2)
    refine lv_if_ne (tgt := 10) hx hb dX7_perform_4 (by decide) (fun _ => ?_) (fun c9 => absurd c9 (by decide))
    refine lv_aload_n hx hb dX7_perform_10 rfl (lv_at hl 0 rfl) ?_
    refine va_get (D := D) (ci := 6) (v := .ref (t 4)) (C := RX7) (T := TX7) (N := 11) hx hb hts inlX7 hown hK hP 0 rfl rfl 6 (by decide) (hts _ mw_26) (fun _ h9 => h9) rfl dX7_perform_11 ?_
    refine lv_iload_n hx hb dX7_perform_14 rfl (lv_at hl 1 rfl) ?_
    rcases (show a.toInt = 0 ∨ a.toInt = 1 ∨ a.toInt = 2 ∨ a.toInt = 3 from by omega) with c_3 | c_4 | c_5 | c_6
    · have qc_3 : a = 0 := ti_of (show a.toInt = 0 from c_3)
      refine lv_ni (v := 0) qc_3 ?_
      refine va_aldq hx hb hK hP 1 5 rfl rfl (vp_in_c (by decide)) dX7_perform_15 ?_
      refine lv_nv (v := .ref (b 0)) (rfl) ?_
      refine va_get (D := D) (ci := 2) (v := .int 0) (C := RX3) (T := TX3) (N := 4) hx hb hts inlX3 hown hK hP 2 rfl rfl 0 (by decide) (hts _ mw_570) (fun _ h9 => h9) rfl dX7_perform_16 ?_
      refine lv_if_eq (tgt := 38) hx hb dX7_perform_19 (by decide) (fun _ => ?_) (fun c9 => absurd c9 (by decide))
      refine lv_bipush (v := (-6)) hx hb dX7_perform_38 (by decide) ?_
      exact W.iret (v := (-6)) hx hb hr (fun t ht hW => ⟨(-6), rfl, (by (repeat' split) <;> first | rfl | (exfalso; omega)), ht⟩) (fun q h => by cases h) dX7_perform_40
    · have qc_4 : a = 1 := ti_of (show a.toInt = 1 from c_4)
      refine lv_ni (v := 1) qc_4 ?_
      refine va_aldq hx hb hK hP 1 5 rfl rfl (vp_in_c (by decide)) dX7_perform_15 ?_
      refine lv_nv (v := .ref (b 1)) (rfl) ?_
      refine va_get (D := D) (ci := 2) (v := .int 0) (C := RX3) (T := TX3) (N := 4) hx hb hts inlX3 hown hK hP 3 rfl rfl 0 (by decide) (hts _ mw_570) (fun _ h9 => h9) rfl dX7_perform_16 ?_
      refine lv_if_eq (tgt := 38) hx hb dX7_perform_19 (by decide) (fun _ => ?_) (fun c9 => absurd c9 (by decide))
      refine lv_bipush (v := (-6)) hx hb dX7_perform_38 (by decide) ?_
      exact W.iret (v := (-6)) hx hb hr (fun t ht hW => ⟨(-6), rfl, (by (repeat' split) <;> first | rfl | (exfalso; omega)), ht⟩) (fun q h => by cases h) dX7_perform_40
    · have qc_5 : a = 2 := ti_of (show a.toInt = 2 from c_5)
      refine lv_ni (v := 2) qc_5 ?_
      refine va_aldq hx hb hK hP 1 5 rfl rfl (vp_in_c (by decide)) dX7_perform_15 ?_
      refine lv_nv (v := .ref (b 2)) (rfl) ?_
      refine va_get (D := D) (ci := 2) (v := .int 0) (C := RX3) (T := TX3) (N := 4) hx hb hts inlX3 hown hK hP 4 rfl rfl 0 (by decide) (hts _ mw_570) (fun _ h9 => h9) rfl dX7_perform_16 ?_
      refine lv_if_eq (tgt := 38) hx hb dX7_perform_19 (by decide) (fun _ => ?_) (fun c9 => absurd c9 (by decide))
      refine lv_bipush (v := (-6)) hx hb dX7_perform_38 (by decide) ?_
      exact W.iret (v := (-6)) hx hb hr (fun t ht hW => ⟨(-6), rfl, (by (repeat' split) <;> first | rfl | (exfalso; omega)), ht⟩) (fun q h => by cases h) dX7_perform_40
    · have qc_6 : a = 3 := ti_of (show a.toInt = 3 from c_6)
      refine lv_ni (v := 3) qc_6 ?_
      refine va_aldq hx hb hK hP 1 5 rfl rfl (vp_in_c (by decide)) dX7_perform_15 ?_
      refine lv_nv (v := .ref (b 3)) (rfl) ?_
      refine va_get (D := D) (ci := 2) (v := .int 0) (C := RX3) (T := TX3) (N := 4) hx hb hts inlX3 hown hK hP 5 rfl rfl 0 (by decide) (hts _ mw_570) (fun _ h9 => h9) rfl dX7_perform_16 ?_
      refine lv_if_eq (tgt := 38) hx hb dX7_perform_19 (by decide) (fun _ => ?_) (fun c9 => absurd c9 (by decide))
      refine lv_bipush (v := (-6)) hx hb dX7_perform_38 (by decide) ?_
      exact W.iret (v := (-6)) hx hb hr (fun t ht hW => ⟨(-6), rfl, (by (repeat' split) <;> first | rfl | (exfalso; omega)), ht⟩) (fun q h => by cases h) dX7_perform_40
  have hr_1 := hr_1.trans (if_neg hc_2)
  obtain rfl : r_1 = 0 := hr_1
  refine lv_if_ne (tgt := 10) hx hb dX7_perform_4 (by decide) (fun c9 => absurd c9 (by decide)) (fun _ => ?_)
  refine lv_bipush (v := (-2)) hx hb dX7_perform_7 (by decide) ?_
  exact W.iret (v := (-2)) hx hb hr (fun t ht hW => ⟨(-2), rfl, (by (repeat' split) <;> first | rfl | (exfalso; omega)), ht⟩) (fun q h => by cases h) dX7_perform_9
set_option maxHeartbeats 4000000 in
set_option maxRecDepth 100000 in
theorem c_T_drawn (l : Launch) (D : va_G) (k : Nat → ClassId) (t : Nat → Nat) (n : Nat → Nat) (v : Nat → Nat) (d : Nat → Nat) (a : Int32) (x : Int32) (sz : Nat) : Met l yX7_drawn (Cond.code yX7_drawn cX7_drawn 8 (some .int) :: wsL_law) ({ frames := 2, cells := 0, slots := 0, locals := 120 } : Room) (va_Pc [.ref (t 0), .int a, .int x] (pu D k sz [((t 0), .inr (6, [.ref (t 1), .int 0, .ref (n 0), .ref (v 0), .ref (t 2), .ref (t 3), .ref (t 4), .ref (t 5), .ref (d 0), .ref (t 6), .ref (t 7)])), ((n 0), .inr (5, [.int 0, .int 0, .int 3, .int 8, .int 4, .int 4, .int 0, .int 0, .int 0, .int 0, .int 0, .ref (n 1), .ref (n 2), .ref (n 3), .ref (n 4), .ref (n 5)])), ((n 1), .inl (k 0, 10, .inl (fun _ => 0))), ((n 2), .inl (k 0, 10, .inl (fun _ => 0))), ((n 3), .inl (k 0, 60, .inl (fun _ => 0))), ((n 4), .inl (k 0, 10, .inl (fun _ => 0))), ((n 5), .inl (k 0, 60, .inl (fun _ => 0)))])) (va_Qi (fun rr (uu : Unit) => rr = if 1 ≤ x.toInt ∧ x.toInt ≤ 30 then 0 else (-3)) (qu D (va_A [((t 0), .inr (6, [.ref (t 1), .int 0, .ref (n 0), .ref (v 0), .ref (t 2), .ref (t 3), .ref (t 4), .ref (t 5), .ref (d 0), .ref (t 6), .ref (t 7)])), ((n 0), .inr (5, [.int 0, .int 0, .int 3, .int 8, .int 4, .int 4, .int 0, .int 0, .int 0, .int 0, .int 0, .ref (n 1), .ref (n 2), .ref (n 3), .ref (n 4), .ref (n 5)])), ((n 1), .inl (k 0, 10, .inl (fun _ => 0))), ((n 2), .inl (k 0, 10, .inl (fun _ => 0))), ((n 3), .inl (k 0, 60, .inl (fun _ => 0))), ((n 4), .inl (k 0, 10, .inl (fun _ => 0))), ((n 5), .inl (k 0, 60, .inl (fun _ => 0)))] sz) (fun uu : Unit => [])) (va_A [((t 0), .inr (6, [.ref (t 1), .int 0, .ref (n 0), .ref (v 0), .ref (t 2), .ref (t 3), .ref (t 4), .ref (t 5), .ref (d 0), .ref (t 6), .ref (t 7)])), ((n 0), .inr (5, [.int 0, .int 0, .int 3, .int 8, .int 4, .int 4, .int 0, .int 0, .int 0, .int 0, .int 0, .ref (n 1), .ref (n 2), .ref (n 3), .ref (n 4), .ref (n 5)])), ((n 1), .inl (k 0, 10, .inl (fun _ => 0))), ((n 2), .inl (k 0, 10, .inl (fun _ => 0))), ((n 3), .inl (k 0, 60, .inl (fun _ => 0))), ((n 4), .inl (k 0, 10, .inl (fun _ => 0))), ((n 5), .inl (k 0, 60, .inl (fun _ => 0)))] sz)) 0 0 (va_A [((t 0), .inr (6, [.ref (t 1), .int 0, .ref (n 0), .ref (v 0), .ref (t 2), .ref (t 3), .ref (t 4), .ref (t 5), .ref (d 0), .ref (t 6), .ref (t 7)])), ((n 0), .inr (5, [.int 0, .int 0, .int 3, .int 8, .int 4, .int 4, .int 0, .int 0, .int 0, .int 0, .int 0, .ref (n 1), .ref (n 2), .ref (n 3), .ref (n 4), .ref (n 5)])), ((n 1), .inl (k 0, 10, .inl (fun _ => 0))), ((n 2), .inl (k 0, 10, .inl (fun _ => 0))), ((n 3), .inl (k 0, 60, .inl (fun _ => 0))), ((n 4), .inl (k 0, 10, .inl (fun _ => 0))), ((n 5), .inl (k 0, 60, .inl (fun _ => 0)))] sz) := by
  refine Met.ofW (cc := cX7_drawn) (maxL := 8) (ret := (some .int)) (by decide) rfl ?_
  intro p e s m args below meth c s₁ B hml hv
  obtain ⟨rfl, hsz, hP, hK, hD0⟩ := hv
  have hx := B.exec
  have hb := B.bytes
  have hr := B.returns
  have hts : ∀ w ∈ wsL_law, w.before _ s = true := fun w h => atoms_spec (ws := Cond.code yX7_drawn cX7_drawn 8 (some .int) :: wsL_law) B.pre w (List.mem_cons_of_mem _ h)
  have hown : s.vm.findClass RX7 = some m.cls := findClass_of_methodNamed B.named
  have hlocks := B.notSynchronized
  subst hsz
  have hD := hD0.self (sz := s.heap.size)
  generalize hAe : va_A [((t 0), .inr (6, [.ref (t 1), .int 0, .ref (n 0), .ref (v 0), .ref (t 2), .ref (t 3), .ref (t 4), .ref (t 5), .ref (d 0), .ref (t 6), .ref (t 7)])), ((n 0), .inr (5, [.int 0, .int 0, .int 3, .int 8, .int 4, .int 4, .int 0, .int 0, .int 0, .int 0, .int 0, .ref (n 1), .ref (n 2), .ref (n 3), .ref (n 4), .ref (n 5)])), ((n 1), .inl (k 0, 10, .inl (fun _ => 0))), ((n 2), .inl (k 0, 10, .inl (fun _ => 0))), ((n 3), .inl (k 0, 60, .inl (fun _ => 0))), ((n 4), .inl (k 0, 10, .inl (fun _ => 0))), ((n 5), .inl (k 0, 60, .inl (fun _ => 0)))] s.heap.size = A at hD ⊢
  have hA : ∀ q : Nat, s.heap.size ≤ q → A q := fun q h => by rw [← hAe]; exact Or.inr h
  have hS : va_S A s.heap s.heap [] := va_S.rf
  have hP : va_P D vwCl [((t 0), .inr (6, [.ref (t 1), .int 0, .ref (n 0), .ref (v 0), .ref (t 2), .ref (t 3), .ref (t 4), .ref (t 5), .ref (d 0), .ref (t 6), .ref (t 7)])), ((n 0), .inr (5, [.int 0, .int 0, .int 3, .int 8, .int 4, .int 4, .int 0, .int 0, .int 0, .int 0, .int 0, .ref (n 1), .ref (n 2), .ref (n 3), .ref (n 4), .ref (n 5)])), ((n 1), .inl (k 0, 10, .inl (fun _ => 0))), ((n 2), .inl (k 0, 10, .inl (fun _ => 0))), ((n 3), .inl (k 0, 60, .inl (fun _ => 0))), ((n 4), .inl (k 0, 10, .inl (fun _ => 0))), ((n 5), .inl (k 0, 60, .inl (fun _ => 0)))] s.heap := hP
  have hl := lv_entry ([.ref (t 0), .int a, .int x]) (n := 8) (Nat.le_of_ble_eq_true rfl)
  rw [lg_entry_eq]
  generalize (lg_sl ([.ref (t 0), .int a, .int x]) ++ List.replicate (8 - (lg_sl ([.ref (t 0), .int a, .int x])).length) Slot.unset).toArray = ls at hl ⊢
  have hl : lv_has ls 8 [(0, .ref (t 0)), (1, .int a), (2, .int x)] := hl
  refine lv_iload_n hx hb dX7_drawn_0 rfl (lv_at hl 2 rfl) ?_
  refine lv_iconst (v := 1) hx hb dX7_drawn_1 (by decide) ?_
  refine lv_icmp_lt (tgt := 11) hx hb dX7_drawn_2 (by decide) (fun c_1 => ?_) (fun c_1 => ?_)
  · have c_1 : x.toInt < 1 := ti_lt c_1
    refine lv_bipush (v := (-3)) hx hb dX7_drawn_11 (by decide) ?_
    have hP9 := hP.sub (ws' := []) [] rfl
    have hD9 := hD.sub (ws' := []) [] (by decide) rfl
    exact W.iret (v := (-3)) hx hb hr (fun t ht hW => ⟨⟨(-3), (), rfl, (by (repeat' split) <;> first | rfl | (exfalso; omega)), by rw [ht]; exact hP9, hD9⟩, hS.F ht⟩) hS.2.2 dX7_drawn_13
  · have c_1 : 1 ≤ x.toInt := ti_nlt c_1
    refine lv_iload_n hx hb dX7_drawn_5 rfl (lv_at hl 2 rfl) ?_
    refine lv_bipush (v := 30) hx hb dX7_drawn_6 (by decide) ?_
    refine lv_icmp_le (tgt := 14) hx hb dX7_drawn_8 (by decide) (fun c_2 => ?_) (fun c_2 => ?_)
    · have c_2 : x.toInt ≤ 30 := ti_le c_2
      refine lv_aload_n hx hb dX7_drawn_14 rfl (lv_at hl 0 rfl) ?_
      refine va_get (D := D) (ci := 6) (v := .ref (n 0)) (C := RX7) (T := TX7) (N := 11) hx hb hts inlX7 hown hK hP 0 rfl rfl 2 (by decide) (hts _ mw_20) (fun _ h9 => h9) rfl dX7_drawn_15 ?_
      refine va_get (D := D) (ci := 5) (v := .int 0) (C := RX6) (T := TX6) (N := 16) hx hb hts inlX6 hown hK hP 1 rfl rfl 1 (by decide) (hts _ mw_464) (fun _ h9 => h9) rfl dX7_drawn_18 ?_
      refine lv_iload_n hx hb dX7_drawn_21 rfl (lv_at hl 2 rfl) ?_
      refine lv_iadd hx hb dX7_drawn_22 ?_
      refine lv_topi (fun z_3 ez_3 => ?_)
      have tz_3 : z_3.toInt = 0 + x.toInt := by rw [ez_3]; exact ti_addcl (by decide) (by omega) (by omega)
      refine lv_sipush (v := 999) hx hb dX7_drawn_23 (by decide) ?_
      refine lv_icmp_le (tgt := 32) hx hb dX7_drawn_26 (by decide) (fun c_4 => ?_) (fun c_4 => by have q := ti_nle c_4; have q : 999 < z_3.toInt := q; exfalso; omega)
      have c_4 : z_3.toInt ≤ 999 := ti_le c_4
      refine lv_iload_n hx hb dX7_drawn_32 rfl (lv_at hl 1 rfl) ?_
      refine lv_istore_n (lv' := [(3, .int a), (0, .ref (t 0)), (1, .int a), (2, .int x)]) hx hb dX7_drawn_33 rfl hl (by decide) rfl (fun ls hl => ?_)
      refine lv_iconst (v := 0) hx hb dX7_drawn_34 (by decide) ?_
      refine lv_istore (lv' := [(4, .int 0), (3, .int a), (0, .ref (t 0)), (1, .int a), (2, .int x)]) hx hb dX7_drawn_35 hl (by decide) rfl (fun ls hl => ?_)
      refine lv_iconst (v := 0) hx hb dX7_drawn_37 (by decide) ?_
      refine lv_istore (lv' := [(5, .int 0), (4, .int 0), (3, .int a), (0, .ref (t 0)), (1, .int a), (2, .int x)]) hx hb dX7_drawn_38 hl (by decide) rfl (fun ls hl => ?_)
      refine W_loop (σ := Int32 × Int32 × Int32) (fun xx H locs ls => (0 ≤ xx.1.toInt ∧ xx.1.toInt ≤ x.toInt) ∧ va_P D vwCl [((t 0), .inr (6, [.ref (t 1), .int 0, .ref (n 0), .ref (v 0), .ref (t 2), .ref (t 3), .ref (t 4), .ref (t 5), .ref (d 0), .ref (t 6), .ref (t 7)])), ((n 0), .inr (5, [.int 0, .int xx.2.1, .int 3, .int 8, .int 4, .int 4, .int 0, .int 0, .int 0, .int 0, .int 0, .ref (n 1), .ref (n 2), .ref (n 3), .ref (n 4), .ref (n 5)])), ((n 1), .inl (k 0, 10, .inl (fun _ => 0))), ((n 2), .inl (k 0, 10, .inl (fun _ => 0))), ((n 3), .inl (k 0, 60, .inl (fun _ => 0))), ((n 4), .inl (k 0, 10, .inl (fun _ => 0))), ((n 5), .inl (k 0, 60, .inl (fun _ => 0)))] H ∧ va_D A [((t 0), .inr (6, [.ref (t 1), .int 0, .ref (n 0), .ref (v 0), .ref (t 2), .ref (t 3), .ref (t 4), .ref (t 5), .ref (d 0), .ref (t 6), .ref (t 7)])), ((n 0), .inr (5, [.int 0, .int xx.2.1, .int 3, .int 8, .int 4, .int 4, .int 0, .int 0, .int 0, .int 0, .int 0, .ref (n 1), .ref (n 2), .ref (n 3), .ref (n 4), .ref (n 5)])), ((n 1), .inl (k 0, 10, .inl (fun _ => 0))), ((n 2), .inl (k 0, 10, .inl (fun _ => 0))), ((n 3), .inl (k 0, 60, .inl (fun _ => 0))), ((n 4), .inl (k 0, 10, .inl (fun _ => 0))), ((n 5), .inl (k 0, 60, .inl (fun _ => 0)))] ∧ va_S A s.heap H locs ∧ lv_has ls 8 [(5, .int xx.1), (4, .int 0), (3, .int xx.2.2), (0, .ref (t 0)), (1, .int a), (2, .int x)]) (fun xx => (x.toInt - xx.1.toInt).toNat) ?_ (0, 0, a) _ _ ls ⟨(show 0 ≤ (0 : Int32).toInt ∧ (0 : Int32).toInt ≤ x.toInt from ⟨by decide, by rw [show (0 : Int32).toInt = 0 from by decide]; omega⟩), hP.sub [0, 1, 2, 3, 4, 5, 6] rfl, hD.sub [0, 1, 2, 3, 4, 5, 6] (by decide) rfl, hS, lv_sub hl [0, 1, 2, 3, 4, 5] rfl⟩
      intro xx H locs ls hI ih
      obtain ⟨i_5, y_6, y_7⟩ := xx
      obtain ⟨h_8, hP, hD, hS, hl⟩ := hI
      have h_8 : 0 ≤ i_5.toInt ∧ i_5.toInt ≤ x.toInt := h_8
      obtain ⟨h_8a, h_8b⟩ := h_8
      have hP : va_P D vwCl [((t 0), .inr (6, [.ref (t 1), .int 0, .ref (n 0), .ref (v 0), .ref (t 2), .ref (t 3), .ref (t 4), .ref (t 5), .ref (d 0), .ref (t 6), .ref (t 7)])), ((n 0), .inr (5, [.int 0, .int y_6, .int 3, .int 8, .int 4, .int 4, .int 0, .int 0, .int 0, .int 0, .int 0, .ref (n 1), .ref (n 2), .ref (n 3), .ref (n 4), .ref (n 5)])), ((n 1), .inl (k 0, 10, .inl (fun _ => 0))), ((n 2), .inl (k 0, 10, .inl (fun _ => 0))), ((n 3), .inl (k 0, 60, .inl (fun _ => 0))), ((n 4), .inl (k 0, 10, .inl (fun _ => 0))), ((n 5), .inl (k 0, 60, .inl (fun _ => 0)))] H := hP
      have hD : va_D A [((t 0), .inr (6, [.ref (t 1), .int 0, .ref (n 0), .ref (v 0), .ref (t 2), .ref (t 3), .ref (t 4), .ref (t 5), .ref (d 0), .ref (t 6), .ref (t 7)])), ((n 0), .inr (5, [.int 0, .int y_6, .int 3, .int 8, .int 4, .int 4, .int 0, .int 0, .int 0, .int 0, .int 0, .ref (n 1), .ref (n 2), .ref (n 3), .ref (n 4), .ref (n 5)])), ((n 1), .inl (k 0, 10, .inl (fun _ => 0))), ((n 2), .inl (k 0, 10, .inl (fun _ => 0))), ((n 3), .inl (k 0, 60, .inl (fun _ => 0))), ((n 4), .inl (k 0, 10, .inl (fun _ => 0))), ((n 5), .inl (k 0, 60, .inl (fun _ => 0)))] := hD
      have hl : lv_has ls 8 [(5, .int i_5), (4, .int 0), (3, .int y_7), (0, .ref (t 0)), (1, .int a), (2, .int x)] := hl
      refine lv_iload hx hb dX7_drawn_40 (lv_at hl 0 rfl) ?_
      refine lv_iload_n hx hb dX7_drawn_42 rfl (lv_at hl 5 rfl) ?_
      refine lv_icmp_ge (tgt := 158) hx hb dX7_drawn_43 (by decide) (fun c_9 => ?_) (fun c_9 => ?_)
      · have c_9 : x.toInt ≤ i_5.toInt := ti_le c_9
        refine lv_iload hx hb dX7_drawn_158 (lv_at hl 1 rfl) ?_
        have hP9 := hP.sub (ws' := []) [] rfl
        have hD9 := hD.sub (ws' := []) [] (by decide) rfl
        exact W.iret (v := 0) hx hb hr (fun t ht hW => ⟨⟨0, (), rfl, (by (repeat' split) <;> first | rfl | (exfalso; omega)), by rw [ht]; exact hP9, hD9⟩, hS.F ht⟩) hS.2.2 dX7_drawn_160
      · have c_9 : i_5.toInt < x.toInt := ti_nle c_9
        refine lv_iconst (v := 0) hx hb dX7_drawn_46 (by decide) ?_
        refine lv_istore (lv' := [(6, .int 0), (5, .int i_5), (4, .int 0), (3, .int y_7), (0, .ref (t 0)), (1, .int a), (2, .int x)]) hx hb dX7_drawn_47 hl (by decide) rfl (fun ls hl => ?_)
        refine lv_iconst (v := 0) hx hb dX7_drawn_49 (by decide) ?_
        refine lv_istore (lv' := [(7, .int 0), (6, .int 0), (5, .int i_5), (4, .int 0), (3, .int y_7), (0, .ref (t 0)), (1, .int a), (2, .int x)]) hx hb dX7_drawn_50 hl (by decide) rfl (fun ls hl => ?_)
        refine lv_iload hx hb dX7_drawn_52 (lv_at hl 0 rfl) ?_
        refine lv_aload_n hx hb dX7_drawn_54 rfl (lv_at hl 5 rfl) ?_
        refine va_get (D := D) (ci := 6) (v := .ref (n 0)) (C := RX7) (T := TX7) (N := 11) hx hb hts inlX7 hown hK hP 0 rfl rfl 2 (by decide) (hts _ mw_20) (fun _ h9 => h9) rfl dX7_drawn_55 ?_
        refine va_get (D := D) (ci := 5) (v := .int 0) (C := RX6) (T := TX6) (N := 16) hx hb hts inlX6 hown hK hP 1 rfl rfl 0 (by decide) (hts _ mw_622) (fun _ h9 => h9) rfl dX7_drawn_58 ?_
        refine lv_icmp_ge (tgt := 112) hx hb dX7_drawn_61 (by decide) (fun _ => ?_) (fun c9 => absurd c9 (by decide))
        refine lv_aload_n hx hb dX7_drawn_112 rfl (lv_at hl 5 rfl) ?_
        refine va_get (D := D) (ci := 6) (v := .ref (n 0)) (C := RX7) (T := TX7) (N := 11) hx hb hts inlX7 hown hK hP 0 rfl rfl 2 (by decide) (hts _ mw_20) (fun _ h9 => h9) rfl dX7_drawn_113 ?_
        refine lv_iload hx hb dX7_drawn_116 (lv_at hl 1 rfl) ?_
        refine kV_uv (q0 := 0) (As := [.int 0]) (rest := []) (wc := [((n 0), .inr (5, [.int 0, .int y_6, .int 3, .int 8, .int 4, .int 4, .int 0, .int 0, .int 0, .int 0, .int 0, .ref (n 1), .ref (n 2), .ref (n 3), .ref (n 4), .ref (n 5)])), ((n 1), .inl (k 0, 10, .inl (fun _ => 0))), ((n 2), .inl (k 0, 10, .inl (fun _ => 0))), ((n 3), .inl (k 0, 60, .inl (fun _ => 0))), ((n 4), .inl (k 0, 10, .inl (fun _ => 0))), ((n 5), .inl (k 0, 60, .inl (fun _ => 0)))]) (wr := [((t 0), .inr (6, [.ref (t 1), .int 0, .ref (n 0), .ref (v 0), .ref (t 2), .ref (t 3), .ref (t 4), .ref (t 5), .ref (d 0), .ref (t 6), .ref (t 7)]))]) ⟨hx, hb, hml, hown, hts⟩ (c_W_passYear l D k n y_6 0 _) (gV mw_478 mw_479 mw_480 mw_19 mw_481) hd_yX6_passYear rfl rfl ⟨Nat.le_of_ble_eq_true rfl, Nat.le_of_ble_eq_true rfl⟩ hK hP hD hS hA [1, 2, 3, 4, 5, 6] [0] rfl rfl (by decide) (by decide) (by decide) rfl rfl rfl rfl hl.1 rfl (Nat.le_of_ble_eq_true rfl) dX7_drawn_118 ⟨Nat.le_of_ble_eq_true rfl, Nat.le_of_ble_eq_true rfl⟩ (fun u_11 H locs hw hP hD hS => ?_)
        obtain ⟨v_12, rfl⟩ : ∃ z, z = u_11 := ⟨_, rfl⟩
        have hP : va_P D vwCl [((t 0), .inr (6, [.ref (t 1), .int 0, .ref (n 0), .ref (v 0), .ref (t 2), .ref (t 3), .ref (t 4), .ref (t 5), .ref (d 0), .ref (t 6), .ref (t 7)])), ((n 0), .inr (5, [.int 0, .int v_12, .int 3, .int 8, .int 4, .int 4, .int 0, .int 0, .int 0, .int 0, .int 0, .ref (n 1), .ref (n 2), .ref (n 3), .ref (n 4), .ref (n 5)])), ((n 1), .inl (k 0, 10, .inl (fun _ => 0))), ((n 2), .inl (k 0, 10, .inl (fun _ => 0))), ((n 3), .inl (k 0, 60, .inl (fun _ => 0))), ((n 4), .inl (k 0, 10, .inl (fun _ => 0))), ((n 5), .inl (k 0, 60, .inl (fun _ => 0)))] H := hP
        have hD : va_D A [((t 0), .inr (6, [.ref (t 1), .int 0, .ref (n 0), .ref (v 0), .ref (t 2), .ref (t 3), .ref (t 4), .ref (t 5), .ref (d 0), .ref (t 6), .ref (t 7)])), ((n 0), .inr (5, [.int 0, .int v_12, .int 3, .int 8, .int 4, .int 4, .int 0, .int 0, .int 0, .int 0, .int 0, .ref (n 1), .ref (n 2), .ref (n 3), .ref (n 4), .ref (n 5)])), ((n 1), .inl (k 0, 10, .inl (fun _ => 0))), ((n 2), .inl (k 0, 10, .inl (fun _ => 0))), ((n 3), .inl (k 0, 60, .inl (fun _ => 0))), ((n 4), .inl (k 0, 10, .inl (fun _ => 0))), ((n 5), .inl (k 0, 60, .inl (fun _ => 0)))] := hD
        refine lv_iload_n hx hb dX7_drawn_121 rfl (lv_at hl 4 rfl) ?_
        refine kS_i (As := [.int y_7]) (rest := []) (cs := []) ⟨hx, hb, hml, hown, hts⟩ (c_T_nextDraw l D k y_7) (gS mw_623 mw_624 mw_2 mw_625) hd_yX7_nextDraw rfl rfl ⟨Nat.le_of_ble_eq_true rfl, Nat.le_of_ble_eq_true rfl⟩ hK (hP.sub (ws' := []) [] rfl) rfl hl.1 rfl (Nat.le_of_ble_eq_true rfl) dX7_drawn_122 ⟨Nat.le_of_ble_eq_true rfl, Nat.le_of_ble_eq_true rfl⟩ (fun r_13 hr_13 => ?_)
        obtain rfl : r_13 = (1103515245 * y_7 + 12345) := hr_13
        refine lv_istore_n (lv' := [(3, .int (1103515245 * y_7 + 12345)), (7, .int 0), (6, .int 0), (5, .int i_5), (4, .int 0), (0, .ref (t 0)), (1, .int a), (2, .int x)]) hx hb dX7_drawn_125 rfl hl (by decide) rfl (fun ls hl => ?_)
        refine lv_iload hx hb dX7_drawn_126 (lv_at hl 4 rfl) ?_
        refine lv_iload_n hx hb dX7_drawn_128 rfl (lv_at hl 0 rfl) ?_
        refine lv_bipush (v := 16) hx hb dX7_drawn_129 (by decide) ?_
        refine lv_iushr hx hb dX7_drawn_131 rfl ?_
        refine lv_topi (fun z_14 ez_14 => ?_)
        refine lv_iconst (v := 2) hx hb dX7_drawn_132 (by decide) ?_
        refine lv_irem hx hb dX7_drawn_133 (by decide) ?_
        refine lv_topi (fun z_15 ez_15 => ?_)
        refine lv_iconst (v := 1) hx hb dX7_drawn_134 (by decide) ?_
        refine lv_icmp_ne (tgt := 148) hx hb dX7_drawn_135 (by decide) (fun c_16 => ?_) (fun c_16 => ?_)
        · have c_16 : z_15.toInt ≠ 1 := ti_ne c_16
          refine lv_iconst (v := 0) hx hb dX7_drawn_148 (by decide) ?_
          refine lv_iadd hx hb dX7_drawn_149 ?_
          refine lv_ni (v := 0) (by decide) ?_
          refine lv_istore (lv' := [(4, .int 0), (3, .int (1103515245 * y_7 + 12345)), (7, .int 0), (6, .int 0), (5, .int i_5), (0, .ref (t 0)), (1, .int a), (2, .int x)]) hx hb dX7_drawn_150 hl (by decide) rfl (fun ls hl => ?_)
          obtain ⟨z_17, ez_17⟩ : ∃ y : Int32, y = i_5 + 1 := ⟨_, rfl⟩
          have tz_17 : z_17.toInt = i_5.toInt + 1 := by rw [ez_17]; exact ti_addc (by decide) (by omega) (by omega)
          refine lv_iinc (v := z_17) (lv' := [(5, .int z_17), (4, .int 0), (3, .int (1103515245 * y_7 + 12345)), (7, .int 0), (6, .int 0), (0, .ref (t 0)), (1, .int a), (2, .int x)]) hx hb dX7_drawn_152 hl (k := 4) rfl (ez_17.symm) (by decide) rfl (fun ls hl => ?_)
          refine lv_goto (tgt := 40) hx hb dX7_drawn_155 (by decide) ?_
          exact ih (z_17, v_12, (1103515245 * y_7 + 12345)) _ _ ls (by show (x.toInt - z_17.toInt).toNat < (x.toInt - i_5.toInt).toNat; omega) ⟨(show 0 ≤ z_17.toInt ∧ z_17.toInt ≤ x.toInt from ⟨by omega, by omega⟩), hP.sub [0, 1, 2, 3, 4, 5, 6] rfl, hD.sub [0, 1, 2, 3, 4, 5, 6] (by decide) rfl, hS, lv_sub hl [0, 1, 2, 5, 6, 7] rfl⟩
        · have c_16 : z_15.toInt = 1 := ti_eq c_16
          have qc_16 : z_15 = 1 := ti_of (show z_15.toInt = 1 from by omega)
          refine lv_aload_n hx hb dX7_drawn_138 rfl (lv_at hl 5 rfl) ?_
          refine va_get (D := D) (ci := 6) (v := .ref (n 0)) (C := RX7) (T := TX7) (N := 11) hx hb hts inlX7 hown hK hP 0 rfl rfl 2 (by decide) (hts _ mw_20) (fun _ h9 => h9) rfl dX7_drawn_139 ?_
          refine kV_i (q0 := 0) (As := []) (rest := [.int 0]) (cs := [((n 0), .inr (5, [.int 0, .int v_12, .int 3, .int 8, .int 4, .int 4, .int 0, .int 0, .int 0, .int 0, .int 0, .ref (n 1), .ref (n 2), .ref (n 3), .ref (n 4), .ref (n 5)]))]) ⟨hx, hb, hml, hown, hts⟩ (c_W_rainDown l D k n v_12) (gV mw_552 mw_553 mw_554 mw_19 mw_555) hd_yX6_rainDown rfl rfl ⟨Nat.le_of_ble_eq_true rfl, Nat.le_of_ble_eq_true rfl⟩ hK (hP.sub (ws' := [((n 0), .inr (5, [.int 0, .int v_12, .int 3, .int 8, .int 4, .int 4, .int 0, .int 0, .int 0, .int 0, .int 0, .ref (n 1), .ref (n 2), .ref (n 3), .ref (n 4), .ref (n 5)]))]) [1] rfl) rfl rfl rfl rfl hl.1 rfl (Nat.le_of_ble_eq_true rfl) dX7_drawn_142 ⟨Nat.le_of_ble_eq_true rfl, Nat.le_of_ble_eq_true rfl⟩ (fun r_18 hr_18 => ?_)
          obtain rfl : r_18 = 0 := hr_18
          refine lv_goto (tgt := 149) hx hb dX7_drawn_145 (by decide) ?_
          refine lv_iadd hx hb dX7_drawn_149 ?_
          refine lv_ni (v := 0) (by decide) ?_
          refine lv_istore (lv' := [(4, .int 0), (3, .int (1103515245 * y_7 + 12345)), (7, .int 0), (6, .int 0), (5, .int i_5), (0, .ref (t 0)), (1, .int a), (2, .int x)]) hx hb dX7_drawn_150 hl (by decide) rfl (fun ls hl => ?_)
          obtain ⟨z_19, ez_19⟩ : ∃ y : Int32, y = i_5 + 1 := ⟨_, rfl⟩
          have tz_19 : z_19.toInt = i_5.toInt + 1 := by rw [ez_19]; exact ti_addc (by decide) (by omega) (by omega)
          refine lv_iinc (v := z_19) (lv' := [(5, .int z_19), (4, .int 0), (3, .int (1103515245 * y_7 + 12345)), (7, .int 0), (6, .int 0), (0, .ref (t 0)), (1, .int a), (2, .int x)]) hx hb dX7_drawn_152 hl (k := 4) rfl (ez_19.symm) (by decide) rfl (fun ls hl => ?_)
          refine lv_goto (tgt := 40) hx hb dX7_drawn_155 (by decide) ?_
          exact ih (z_19, v_12, (1103515245 * y_7 + 12345)) _ _ ls (by show (x.toInt - z_19.toInt).toNat < (x.toInt - i_5.toInt).toNat; omega) ⟨(show 0 ≤ z_19.toInt ∧ z_19.toInt ≤ x.toInt from ⟨by omega, by omega⟩), hP.sub [0, 1, 2, 3, 4, 5, 6] rfl, hD.sub [0, 1, 2, 3, 4, 5, 6] (by decide) rfl, hS, lv_sub hl [0, 1, 2, 5, 6, 7] rfl⟩
    · have c_2 : 30 < x.toInt := ti_nle c_2
      refine lv_bipush (v := (-3)) hx hb dX7_drawn_11 (by decide) ?_
      have hP9 := hP.sub (ws' := []) [] rfl
      have hD9 := hD.sub (ws' := []) [] (by decide) rfl
      exact W.iret (v := (-3)) hx hb hr (fun t ht hW => ⟨⟨(-3), (), rfl, (by (repeat' split) <;> first | rfl | (exfalso; omega)), by rw [ht]; exact hP9, hD9⟩, hS.F ht⟩) hS.2.2 dX7_drawn_13
set_option maxHeartbeats 4000000 in
set_option maxRecDepth 100000 in
theorem c_T_leaks (l : Launch) (D : va_G) (k : Nat → ClassId) (t : Nat → Nat) (n : Nat → Nat) (v : Nat → Nat) (d : Nat → Nat) : Met l yX7_leaks (Cond.code yX7_leaks cX7_leaks 1 (some .int) :: wsL_law) ({ frames := 1, cells := 0, slots := 0, locals := 60 } : Room) (va_Pc [.ref (t 0)] (pr D k [((t 0), .inr (6, [.ref (t 1), .int 0, .ref (n 0), .ref (v 0), .ref (t 2), .ref (t 3), .ref (t 4), .ref (t 5), .ref (d 0), .ref (t 6), .ref (t 7)])), ((n 0), .inr (5, [.int 0, .int 0, .int 3, .int 8, .int 4, .int 4, .int 0, .int 0, .int 0, .int 0, .int 0, .ref (n 1), .ref (n 2), .ref (n 3), .ref (n 4), .ref (n 5)]))])) (vp_Si (fun rr => rr = 0)) 0 0 (fun _ => False) := by
  refine Met.ofW (cc := cX7_leaks) (maxL := 1) (ret := (some .int)) (by decide) rfl ?_
  intro p e s m args below meth c s₁ B hml hv
  obtain ⟨rfl, hP, hK⟩ := hv
  have hx := B.exec
  have hb := B.bytes
  have hr := B.returns
  have hts : ∀ w ∈ wsL_law, w.before _ s = true := fun w h => atoms_spec (ws := Cond.code yX7_leaks cX7_leaks 1 (some .int) :: wsL_law) B.pre w (List.mem_cons_of_mem _ h)
  have hown : s.vm.findClass RX7 = some m.cls := findClass_of_methodNamed B.named
  have hlocks := B.notSynchronized
  have hP : va_P D vwCl [((t 0), .inr (6, [.ref (t 1), .int 0, .ref (n 0), .ref (v 0), .ref (t 2), .ref (t 3), .ref (t 4), .ref (t 5), .ref (d 0), .ref (t 6), .ref (t 7)])), ((n 0), .inr (5, [.int 0, .int 0, .int 3, .int 8, .int 4, .int 4, .int 0, .int 0, .int 0, .int 0, .int 0, .ref (n 1), .ref (n 2), .ref (n 3), .ref (n 4), .ref (n 5)]))] s.heap := hP
  have hl := lv_entry ([.ref (t 0)]) (n := 1) (Nat.le_of_ble_eq_true rfl)
  rw [lg_entry_eq]
  generalize (lg_sl ([.ref (t 0)]) ++ List.replicate (1 - (lg_sl ([.ref (t 0)])).length) Slot.unset).toArray = ls at hl ⊢
  have hl : lv_has ls 1 [(0, .ref (t 0))] := hl
  refine lv_aload_n hx hb dX7_leaks_0 rfl (lv_at hl 0 rfl) ?_
  refine va_get (D := D) (ci := 6) (v := .ref (n 0)) (C := RX7) (T := TX7) (N := 11) hx hb hts inlX7 hown hK hP 0 rfl rfl 2 (by decide) (hts _ mw_20) (fun _ h9 => h9) rfl dX7_leaks_1 ?_
  refine kV_i (q0 := 0) (As := []) (rest := []) (cs := [((n 0), .inr (5, [.int 0, .int 0, .int 3, .int 8, .int 4, .int 4, .int 0, .int 0, .int 0, .int 0, .int 0, .ref (n 1), .ref (n 2), .ref (n 3), .ref (n 4), .ref (n 5)]))]) ⟨hx, hb, hml, hown, hts⟩ (c_W_leaking l D k n 0) (gV mw_506 mw_507 mw_508 mw_19 mw_509) hd_yX6_leaking rfl rfl ⟨Nat.le_of_ble_eq_true rfl, Nat.le_of_ble_eq_true rfl⟩ hK (hP.sub (ws' := [((n 0), .inr (5, [.int 0, .int 0, .int 3, .int 8, .int 4, .int 4, .int 0, .int 0, .int 0, .int 0, .int 0, .ref (n 1), .ref (n 2), .ref (n 3), .ref (n 4), .ref (n 5)]))]) [1] rfl) rfl rfl rfl rfl hl.1 rfl (Nat.le_of_ble_eq_true rfl) dX7_leaks_4 ⟨Nat.le_of_ble_eq_true rfl, Nat.le_of_ble_eq_true rfl⟩ (fun r_1 hr_1 => ?_)
  obtain rfl : r_1 = 0 := hr_1
  exact W.iret (v := 0) hx hb hr (fun t ht hW => ⟨0, rfl, rfl, ht⟩) (fun q h => by cases h) dX7_leaks_7
set_option maxHeartbeats 4000000 in
set_option maxRecDepth 100000 in
theorem c_T_harm (l : Launch) (D : va_G) (k : Nat → ClassId) (t : Nat → Nat) (n : Nat → Nat) (v : Nat → Nat) (d : Nat → Nat) (a : Int32) (x : Int32) (sz : Nat) : Met l yX7_harm (Cond.code yX7_harm cX7_harm 3 (some .int) :: wsL_law) ({ frames := 4, cells := 0, slots := 0, locals := 240 } : Room) (va_Pc [.ref (t 0), .int a, .int x] (pu D k sz [((t 0), .inr (6, [.ref (t 1), .int 0, .ref (n 0), .ref (v 0), .ref (t 2), .ref (t 3), .ref (t 4), .ref (t 5), .ref (d 0), .ref (t 6), .ref (t 7)])), ((n 0), .inr (5, [.int 0, .int 0, .int 3, .int 8, .int 4, .int 4, .int 0, .int 0, .int 0, .int 0, .int 0, .ref (n 1), .ref (n 2), .ref (n 3), .ref (n 4), .ref (n 5)])), ((n 1), .inl (k 0, 10, .inl (fun _ => 0))), ((n 2), .inl (k 0, 10, .inl (fun _ => 0))), ((n 3), .inl (k 0, 60, .inl (fun _ => 0))), ((v 0), .inr (5, [.int 0, .int 0, .int 3, .int 8, .int 4, .int 4, .int 0, .int 0, .int 0, .int 0, .int 0, .ref (v 1), .ref (v 2), .ref (v 3), .ref (v 4), .ref (v 5)])), ((v 1), .inl (k 0, 10, .inl (fun _ => 0))), ((v 2), .inl (k 0, 10, .inl (fun _ => 0))), ((v 3), .inl (k 0, 60, .inl (fun _ => 0))), ((v 4), .inl (k 0, 10, .inl (fun _ => 0))), ((v 5), .inl (k 0, 60, .inl (fun _ => 0)))])) (va_Qi (fun rr (uu : Unit) => rr = if a.toInt = 0 ∧ 1 ≤ x.toInt ∧ x.toInt ≤ 12 then 0 else (-3)) (qu D (va_A [((t 0), .inr (6, [.ref (t 1), .int 0, .ref (n 0), .ref (v 0), .ref (t 2), .ref (t 3), .ref (t 4), .ref (t 5), .ref (d 0), .ref (t 6), .ref (t 7)])), ((n 0), .inr (5, [.int 0, .int 0, .int 3, .int 8, .int 4, .int 4, .int 0, .int 0, .int 0, .int 0, .int 0, .ref (n 1), .ref (n 2), .ref (n 3), .ref (n 4), .ref (n 5)])), ((n 1), .inl (k 0, 10, .inl (fun _ => 0))), ((n 2), .inl (k 0, 10, .inl (fun _ => 0))), ((n 3), .inl (k 0, 60, .inl (fun _ => 0))), ((v 0), .inr (5, [.int 0, .int 0, .int 3, .int 8, .int 4, .int 4, .int 0, .int 0, .int 0, .int 0, .int 0, .ref (v 1), .ref (v 2), .ref (v 3), .ref (v 4), .ref (v 5)])), ((v 1), .inl (k 0, 10, .inl (fun _ => 0))), ((v 2), .inl (k 0, 10, .inl (fun _ => 0))), ((v 3), .inl (k 0, 60, .inl (fun _ => 0))), ((v 4), .inl (k 0, 10, .inl (fun _ => 0))), ((v 5), .inl (k 0, 60, .inl (fun _ => 0)))] sz) (fun uu : Unit => [])) (va_A [((t 0), .inr (6, [.ref (t 1), .int 0, .ref (n 0), .ref (v 0), .ref (t 2), .ref (t 3), .ref (t 4), .ref (t 5), .ref (d 0), .ref (t 6), .ref (t 7)])), ((n 0), .inr (5, [.int 0, .int 0, .int 3, .int 8, .int 4, .int 4, .int 0, .int 0, .int 0, .int 0, .int 0, .ref (n 1), .ref (n 2), .ref (n 3), .ref (n 4), .ref (n 5)])), ((n 1), .inl (k 0, 10, .inl (fun _ => 0))), ((n 2), .inl (k 0, 10, .inl (fun _ => 0))), ((n 3), .inl (k 0, 60, .inl (fun _ => 0))), ((v 0), .inr (5, [.int 0, .int 0, .int 3, .int 8, .int 4, .int 4, .int 0, .int 0, .int 0, .int 0, .int 0, .ref (v 1), .ref (v 2), .ref (v 3), .ref (v 4), .ref (v 5)])), ((v 1), .inl (k 0, 10, .inl (fun _ => 0))), ((v 2), .inl (k 0, 10, .inl (fun _ => 0))), ((v 3), .inl (k 0, 60, .inl (fun _ => 0))), ((v 4), .inl (k 0, 10, .inl (fun _ => 0))), ((v 5), .inl (k 0, 60, .inl (fun _ => 0)))] sz)) 0 0 (va_A [((t 0), .inr (6, [.ref (t 1), .int 0, .ref (n 0), .ref (v 0), .ref (t 2), .ref (t 3), .ref (t 4), .ref (t 5), .ref (d 0), .ref (t 6), .ref (t 7)])), ((n 0), .inr (5, [.int 0, .int 0, .int 3, .int 8, .int 4, .int 4, .int 0, .int 0, .int 0, .int 0, .int 0, .ref (n 1), .ref (n 2), .ref (n 3), .ref (n 4), .ref (n 5)])), ((n 1), .inl (k 0, 10, .inl (fun _ => 0))), ((n 2), .inl (k 0, 10, .inl (fun _ => 0))), ((n 3), .inl (k 0, 60, .inl (fun _ => 0))), ((v 0), .inr (5, [.int 0, .int 0, .int 3, .int 8, .int 4, .int 4, .int 0, .int 0, .int 0, .int 0, .int 0, .ref (v 1), .ref (v 2), .ref (v 3), .ref (v 4), .ref (v 5)])), ((v 1), .inl (k 0, 10, .inl (fun _ => 0))), ((v 2), .inl (k 0, 10, .inl (fun _ => 0))), ((v 3), .inl (k 0, 60, .inl (fun _ => 0))), ((v 4), .inl (k 0, 10, .inl (fun _ => 0))), ((v 5), .inl (k 0, 60, .inl (fun _ => 0)))] sz) := by
  refine Met.ofW (cc := cX7_harm) (maxL := 3) (ret := (some .int)) (by decide) rfl ?_
  intro p e s m args below meth c s₁ B hml hv
  obtain ⟨rfl, hsz, hP, hK, hD0⟩ := hv
  have hx := B.exec
  have hb := B.bytes
  have hr := B.returns
  have hts : ∀ w ∈ wsL_law, w.before _ s = true := fun w h => atoms_spec (ws := Cond.code yX7_harm cX7_harm 3 (some .int) :: wsL_law) B.pre w (List.mem_cons_of_mem _ h)
  have hown : s.vm.findClass RX7 = some m.cls := findClass_of_methodNamed B.named
  have hlocks := B.notSynchronized
  subst hsz
  have hD := hD0.self (sz := s.heap.size)
  generalize hAe : va_A [((t 0), .inr (6, [.ref (t 1), .int 0, .ref (n 0), .ref (v 0), .ref (t 2), .ref (t 3), .ref (t 4), .ref (t 5), .ref (d 0), .ref (t 6), .ref (t 7)])), ((n 0), .inr (5, [.int 0, .int 0, .int 3, .int 8, .int 4, .int 4, .int 0, .int 0, .int 0, .int 0, .int 0, .ref (n 1), .ref (n 2), .ref (n 3), .ref (n 4), .ref (n 5)])), ((n 1), .inl (k 0, 10, .inl (fun _ => 0))), ((n 2), .inl (k 0, 10, .inl (fun _ => 0))), ((n 3), .inl (k 0, 60, .inl (fun _ => 0))), ((v 0), .inr (5, [.int 0, .int 0, .int 3, .int 8, .int 4, .int 4, .int 0, .int 0, .int 0, .int 0, .int 0, .ref (v 1), .ref (v 2), .ref (v 3), .ref (v 4), .ref (v 5)])), ((v 1), .inl (k 0, 10, .inl (fun _ => 0))), ((v 2), .inl (k 0, 10, .inl (fun _ => 0))), ((v 3), .inl (k 0, 60, .inl (fun _ => 0))), ((v 4), .inl (k 0, 10, .inl (fun _ => 0))), ((v 5), .inl (k 0, 60, .inl (fun _ => 0)))] s.heap.size = A at hD ⊢
  have hA : ∀ q : Nat, s.heap.size ≤ q → A q := fun q h => by rw [← hAe]; exact Or.inr h
  have hS : va_S A s.heap s.heap [] := va_S.rf
  have hP : va_P D vwCl [((t 0), .inr (6, [.ref (t 1), .int 0, .ref (n 0), .ref (v 0), .ref (t 2), .ref (t 3), .ref (t 4), .ref (t 5), .ref (d 0), .ref (t 6), .ref (t 7)])), ((n 0), .inr (5, [.int 0, .int 0, .int 3, .int 8, .int 4, .int 4, .int 0, .int 0, .int 0, .int 0, .int 0, .ref (n 1), .ref (n 2), .ref (n 3), .ref (n 4), .ref (n 5)])), ((n 1), .inl (k 0, 10, .inl (fun _ => 0))), ((n 2), .inl (k 0, 10, .inl (fun _ => 0))), ((n 3), .inl (k 0, 60, .inl (fun _ => 0))), ((v 0), .inr (5, [.int 0, .int 0, .int 3, .int 8, .int 4, .int 4, .int 0, .int 0, .int 0, .int 0, .int 0, .ref (v 1), .ref (v 2), .ref (v 3), .ref (v 4), .ref (v 5)])), ((v 1), .inl (k 0, 10, .inl (fun _ => 0))), ((v 2), .inl (k 0, 10, .inl (fun _ => 0))), ((v 3), .inl (k 0, 60, .inl (fun _ => 0))), ((v 4), .inl (k 0, 10, .inl (fun _ => 0))), ((v 5), .inl (k 0, 60, .inl (fun _ => 0)))] s.heap := hP
  have hl := lv_entry ([.ref (t 0), .int a, .int x]) (n := 3) (Nat.le_of_ble_eq_true rfl)
  rw [lg_entry_eq]
  generalize (lg_sl ([.ref (t 0), .int a, .int x]) ++ List.replicate (3 - (lg_sl ([.ref (t 0), .int a, .int x])).length) Slot.unset).toArray = ls at hl ⊢
  have hl : lv_has ls 3 [(0, .ref (t 0)), (1, .int a), (2, .int x)] := hl
  refine lv_aload_n hx hb dX7_harm_0 rfl (lv_at hl 0 rfl) ?_
  refine va_get (D := D) (ci := 6) (v := .ref (n 0)) (C := RX7) (T := TX7) (N := 11) hx hb hts inlX7 hown hK hP 0 rfl rfl 2 (by decide) (hts _ mw_20) (fun _ h9 => h9) rfl dX7_harm_1 ?_
  refine lv_iload_n hx hb dX7_harm_4 rfl (lv_at hl 1 rfl) ?_
  refine kV_i (q0 := 0) (As := [.int a]) (rest := []) (cs := [((n 0), .inr (5, [.int 0, .int 0, .int 3, .int 8, .int 4, .int 4, .int 0, .int 0, .int 0, .int 0, .int 0, .ref (n 1), .ref (n 2), .ref (n 3), .ref (n 4), .ref (n 5)]))]) ⟨hx, hb, hml, hown, hts⟩ (c_W_maySkip l D k n a) (gV mw_465 mw_466 mw_467 mw_19 mw_468) hd_yX6_maySkip rfl rfl ⟨Nat.le_of_ble_eq_true rfl, Nat.le_of_ble_eq_true rfl⟩ hK (hP.sub (ws' := [((n 0), .inr (5, [.int 0, .int 0, .int 3, .int 8, .int 4, .int 4, .int 0, .int 0, .int 0, .int 0, .int 0, .ref (n 1), .ref (n 2), .ref (n 3), .ref (n 4), .ref (n 5)]))]) [1] rfl) rfl rfl rfl rfl hl.1 rfl (Nat.le_of_ble_eq_true rfl) dX7_harm_5 ⟨Nat.le_of_ble_eq_true rfl, Nat.le_of_ble_eq_true rfl⟩ (fun r_1 hr_1 => ?_)
  by_cases hc_2 : a.toInt = 0
  · obtain rfl : r_1 = 1 := hr_1.trans (if_pos hc_2)
    have q_3 : a = 0 := ti_of (show a.toInt = 0 from by omega)
    refine lv_if_eq (tgt := 18) hx hb dX7_harm_8 (by decide) (fun c9 => absurd c9 (by decide)) (fun _ => ?_)
    refine lv_iload_n hx hb dX7_harm_11 rfl (lv_at hl 2 rfl) ?_
    refine kS_i (As := [.int x]) (rest := []) (cs := []) ⟨hx, hb, hml, hown, hts⟩ (c_T_isHarmSpan l D k x) (gS mw_707 mw_708 mw_2 mw_709) hd_yX7_isHarmSpan rfl rfl ⟨Nat.le_of_ble_eq_true rfl, Nat.le_of_ble_eq_true rfl⟩ hK (hP.sub (ws' := []) [] rfl) rfl hl.1 rfl (Nat.le_of_ble_eq_true rfl) dX7_harm_12 ⟨Nat.le_of_ble_eq_true rfl, Nat.le_of_ble_eq_true rfl⟩ (fun r_4 hr_4 => ?_)
    by_cases hc_5 : 1 ≤ x.toInt ∧ x.toInt ≤ 12
    · obtain rfl : r_4 = 1 := hr_4.trans (if_pos hc_5)
      refine lv_if_ne (tgt := 21) hx hb dX7_harm_15 (by decide) (fun _ => ?_) (fun c9 => absurd c9 (by decide))
      refine lv_aload_n hx hb dX7_harm_21 rfl (lv_at hl 0 rfl) ?_
      refine lv_iload_n hx hb dX7_harm_22 rfl (lv_at hl 1 rfl) ?_
      refine lv_ni (v := 0) (q_3) ?_
      refine kV_ui (q0 := 0) (As := [.int 0]) (rest := []) (wc := [((t 0), .inr (6, [.ref (t 1), .int 0, .ref (n 0), .ref (v 0), .ref (t 2), .ref (t 3), .ref (t 4), .ref (t 5), .ref (d 0), .ref (t 6), .ref (t 7)])), ((n 0), .inr (5, [.int 0, .int 0, .int 3, .int 8, .int 4, .int 4, .int 0, .int 0, .int 0, .int 0, .int 0, .ref (n 1), .ref (n 2), .ref (n 3), .ref (n 4), .ref (n 5)])), ((n 1), .inl (k 0, 10, .inl (fun _ => 0))), ((n 2), .inl (k 0, 10, .inl (fun _ => 0))), ((n 3), .inl (k 0, 60, .inl (fun _ => 0))), ((v 0), .inr (5, [.int 0, .int 0, .int 3, .int 8, .int 4, .int 4, .int 0, .int 0, .int 0, .int 0, .int 0, .ref (v 1), .ref (v 2), .ref (v 3), .ref (v 4), .ref (v 5)])), ((v 1), .inl (k 0, 10, .inl (fun _ => 0))), ((v 2), .inl (k 0, 10, .inl (fun _ => 0))), ((v 3), .inl (k 0, 60, .inl (fun _ => 0))), ((v 4), .inl (k 0, 10, .inl (fun _ => 0))), ((v 5), .inl (k 0, 60, .inl (fun _ => 0)))]) (wr := []) ⟨hx, hb, hml, hown, hts⟩ (c_T_harmedBy l D k _ _ _ _ _) (gV mw_710 mw_711 mw_712 mw_2 mw_713) hd_yX7_harmedBy rfl rfl ⟨Nat.le_of_ble_eq_true rfl, Nat.le_of_ble_eq_true rfl⟩ hK hP hD hS hA [0, 1, 2, 3, 4, 5, 6, 7, 8, 9, 10] [] rfl rfl (by decide) (by decide) (by decide) rfl rfl rfl rfl hl.1 rfl (Nat.le_of_ble_eq_true rfl) dX7_harm_23 ⟨Nat.le_of_ble_eq_true rfl, Nat.le_of_ble_eq_true rfl⟩ (fun r_6 u_7 H locs hw hP hD hS => ?_)
      have hr_6 := hw
      have hP : va_P D vwCl [] H := hP
      have hD : va_D A [] := hD
      obtain rfl : r_6 = 0 := hr_6
      refine kS_i (As := [.int 0]) (rest := []) (cs := []) ⟨hx, hb, hml, hown, hts⟩ (c_J_bitCount0 l D k ) (gS mw_724 mw_725 mw_726 mw_727) hd_yJ6_bitCount_0f7a4 rfl rfl ⟨Nat.le_of_ble_eq_true rfl, Nat.le_of_ble_eq_true rfl⟩ hK (hP.sub (ws' := []) [] rfl) rfl hl.1 rfl (Nat.le_of_ble_eq_true rfl) dX7_harm_26 ⟨Nat.le_of_ble_eq_true rfl, Nat.le_of_ble_eq_true rfl⟩ (fun r_8 hr_8 => ?_)
      obtain rfl : r_8 = 0 := hr_8
      have hP9 := hP.sub (ws' := []) [] rfl
      have hD9 := hD.sub (ws' := []) [] (by decide) rfl
      exact W.iret (v := 0) hx hb hr (fun t ht hW => ⟨⟨0, (), rfl, (by (repeat' split) <;> first | rfl | (exfalso; omega)), by rw [ht]; exact hP9, hD9⟩, hS.F ht⟩) hS.2.2 dX7_harm_29
    have hr_4 := hr_4.trans (if_neg hc_5)
    obtain rfl : r_4 = 0 := hr_4
    refine lv_if_ne (tgt := 21) hx hb dX7_harm_15 (by decide) (fun c9 => absurd c9 (by decide)) (fun _ => ?_)
    refine lv_bipush (v := (-3)) hx hb dX7_harm_18 (by decide) ?_
    have hP9 := hP.sub (ws' := []) [] rfl
    have hD9 := hD.sub (ws' := []) [] (by decide) rfl
    exact W.iret (v := (-3)) hx hb hr (fun t ht hW => ⟨⟨(-3), (), rfl, (by (repeat' split) <;> first | rfl | (exfalso; omega)), by rw [ht]; exact hP9, hD9⟩, hS.F ht⟩) hS.2.2 dX7_harm_20
  have hr_1 := hr_1.trans (if_neg hc_2)
  obtain rfl : r_1 = 0 := hr_1
  refine lv_if_eq (tgt := 18) hx hb dX7_harm_8 (by decide) (fun _ => ?_) (fun c9 => absurd c9 (by decide))
  refine lv_bipush (v := (-3)) hx hb dX7_harm_18 (by decide) ?_
  have hP9 := hP.sub (ws' := []) [] rfl
  have hD9 := hD.sub (ws' := []) [] (by decide) rfl
  exact W.iret (v := (-3)) hx hb hr (fun t ht hW => ⟨⟨(-3), (), rfl, (by (repeat' split) <;> first | rfl | (exfalso; omega)), by rw [ht]; exact hP9, hD9⟩, hS.F ht⟩) hS.2.2 dX7_harm_20
set_option maxHeartbeats 4000000 in
set_option maxRecDepth 100000 in
theorem c_T_may (l : Launch) (D : va_G) (k : Nat → ClassId) (t : Nat → Nat) (n : Nat → Nat) (v : Nat → Nat) (d : Nat → Nat) (a : Int32) (sz : Nat) : Met l yX7_may (Cond.code yX7_may cX7_may 2 (some .int) :: wsL_law) ({ frames := 3, cells := 0, slots := 0, locals := 180 } : Room) (va_Pc [.ref (t 0), .int a] (pu D k sz [((t 0), .inr (6, [.ref (t 1), .int 0, .ref (n 0), .ref (v 0), .ref (t 2), .ref (t 3), .ref (t 4), .ref (t 5), .ref (d 0), .ref (t 6), .ref (t 7)])), ((n 0), .inr (5, [.int 0, .int 0, .int 3, .int 8, .int 4, .int 4, .int 0, .int 0, .int 0, .int 0, .int 0, .ref (n 1), .ref (n 2), .ref (n 3), .ref (n 4), .ref (n 5)])), ((n 1), .inl (k 0, 10, .inl (fun _ => 0))), ((n 2), .inl (k 0, 10, .inl (fun _ => 0))), ((n 3), .inl (k 0, 60, .inl (fun _ => 0))), ((v 0), .inr (5, [.int 0, .int 0, .int 3, .int 8, .int 4, .int 4, .int 0, .int 0, .int 0, .int 0, .int 0, .ref (v 1), .ref (v 2), .ref (v 3), .ref (v 4), .ref (v 5)])), ((v 1), .inl (k 0, 10, .inl (fun _ => 0))), ((v 2), .inl (k 0, 10, .inl (fun _ => 0))), ((v 3), .inl (k 0, 60, .inl (fun _ => 0))), ((v 4), .inl (k 0, 10, .inl (fun _ => 0))), ((v 5), .inl (k 0, 60, .inl (fun _ => 0)))])) (va_Qi (fun rr (uu : Unit) => rr = if 1 ≤ a.toInt ∧ a.toInt ≤ 12 then 0 else (-3)) (qu D (va_A [((t 0), .inr (6, [.ref (t 1), .int 0, .ref (n 0), .ref (v 0), .ref (t 2), .ref (t 3), .ref (t 4), .ref (t 5), .ref (d 0), .ref (t 6), .ref (t 7)])), ((n 0), .inr (5, [.int 0, .int 0, .int 3, .int 8, .int 4, .int 4, .int 0, .int 0, .int 0, .int 0, .int 0, .ref (n 1), .ref (n 2), .ref (n 3), .ref (n 4), .ref (n 5)])), ((n 1), .inl (k 0, 10, .inl (fun _ => 0))), ((n 2), .inl (k 0, 10, .inl (fun _ => 0))), ((n 3), .inl (k 0, 60, .inl (fun _ => 0))), ((v 0), .inr (5, [.int 0, .int 0, .int 3, .int 8, .int 4, .int 4, .int 0, .int 0, .int 0, .int 0, .int 0, .ref (v 1), .ref (v 2), .ref (v 3), .ref (v 4), .ref (v 5)])), ((v 1), .inl (k 0, 10, .inl (fun _ => 0))), ((v 2), .inl (k 0, 10, .inl (fun _ => 0))), ((v 3), .inl (k 0, 60, .inl (fun _ => 0))), ((v 4), .inl (k 0, 10, .inl (fun _ => 0))), ((v 5), .inl (k 0, 60, .inl (fun _ => 0)))] sz) (fun uu : Unit => [])) (va_A [((t 0), .inr (6, [.ref (t 1), .int 0, .ref (n 0), .ref (v 0), .ref (t 2), .ref (t 3), .ref (t 4), .ref (t 5), .ref (d 0), .ref (t 6), .ref (t 7)])), ((n 0), .inr (5, [.int 0, .int 0, .int 3, .int 8, .int 4, .int 4, .int 0, .int 0, .int 0, .int 0, .int 0, .ref (n 1), .ref (n 2), .ref (n 3), .ref (n 4), .ref (n 5)])), ((n 1), .inl (k 0, 10, .inl (fun _ => 0))), ((n 2), .inl (k 0, 10, .inl (fun _ => 0))), ((n 3), .inl (k 0, 60, .inl (fun _ => 0))), ((v 0), .inr (5, [.int 0, .int 0, .int 3, .int 8, .int 4, .int 4, .int 0, .int 0, .int 0, .int 0, .int 0, .ref (v 1), .ref (v 2), .ref (v 3), .ref (v 4), .ref (v 5)])), ((v 1), .inl (k 0, 10, .inl (fun _ => 0))), ((v 2), .inl (k 0, 10, .inl (fun _ => 0))), ((v 3), .inl (k 0, 60, .inl (fun _ => 0))), ((v 4), .inl (k 0, 10, .inl (fun _ => 0))), ((v 5), .inl (k 0, 60, .inl (fun _ => 0)))] sz)) 0 0 (va_A [((t 0), .inr (6, [.ref (t 1), .int 0, .ref (n 0), .ref (v 0), .ref (t 2), .ref (t 3), .ref (t 4), .ref (t 5), .ref (d 0), .ref (t 6), .ref (t 7)])), ((n 0), .inr (5, [.int 0, .int 0, .int 3, .int 8, .int 4, .int 4, .int 0, .int 0, .int 0, .int 0, .int 0, .ref (n 1), .ref (n 2), .ref (n 3), .ref (n 4), .ref (n 5)])), ((n 1), .inl (k 0, 10, .inl (fun _ => 0))), ((n 2), .inl (k 0, 10, .inl (fun _ => 0))), ((n 3), .inl (k 0, 60, .inl (fun _ => 0))), ((v 0), .inr (5, [.int 0, .int 0, .int 3, .int 8, .int 4, .int 4, .int 0, .int 0, .int 0, .int 0, .int 0, .ref (v 1), .ref (v 2), .ref (v 3), .ref (v 4), .ref (v 5)])), ((v 1), .inl (k 0, 10, .inl (fun _ => 0))), ((v 2), .inl (k 0, 10, .inl (fun _ => 0))), ((v 3), .inl (k 0, 60, .inl (fun _ => 0))), ((v 4), .inl (k 0, 10, .inl (fun _ => 0))), ((v 5), .inl (k 0, 60, .inl (fun _ => 0)))] sz) := by
  refine Met.ofW (cc := cX7_may) (maxL := 2) (ret := (some .int)) (by decide) rfl ?_
  intro p e s m args below meth c s₁ B hml hv
  obtain ⟨rfl, hsz, hP, hK, hD0⟩ := hv
  have hx := B.exec
  have hb := B.bytes
  have hr := B.returns
  have hts : ∀ w ∈ wsL_law, w.before _ s = true := fun w h => atoms_spec (ws := Cond.code yX7_may cX7_may 2 (some .int) :: wsL_law) B.pre w (List.mem_cons_of_mem _ h)
  have hown : s.vm.findClass RX7 = some m.cls := findClass_of_methodNamed B.named
  have hlocks := B.notSynchronized
  subst hsz
  have hD := hD0.self (sz := s.heap.size)
  generalize hAe : va_A [((t 0), .inr (6, [.ref (t 1), .int 0, .ref (n 0), .ref (v 0), .ref (t 2), .ref (t 3), .ref (t 4), .ref (t 5), .ref (d 0), .ref (t 6), .ref (t 7)])), ((n 0), .inr (5, [.int 0, .int 0, .int 3, .int 8, .int 4, .int 4, .int 0, .int 0, .int 0, .int 0, .int 0, .ref (n 1), .ref (n 2), .ref (n 3), .ref (n 4), .ref (n 5)])), ((n 1), .inl (k 0, 10, .inl (fun _ => 0))), ((n 2), .inl (k 0, 10, .inl (fun _ => 0))), ((n 3), .inl (k 0, 60, .inl (fun _ => 0))), ((v 0), .inr (5, [.int 0, .int 0, .int 3, .int 8, .int 4, .int 4, .int 0, .int 0, .int 0, .int 0, .int 0, .ref (v 1), .ref (v 2), .ref (v 3), .ref (v 4), .ref (v 5)])), ((v 1), .inl (k 0, 10, .inl (fun _ => 0))), ((v 2), .inl (k 0, 10, .inl (fun _ => 0))), ((v 3), .inl (k 0, 60, .inl (fun _ => 0))), ((v 4), .inl (k 0, 10, .inl (fun _ => 0))), ((v 5), .inl (k 0, 60, .inl (fun _ => 0)))] s.heap.size = A at hD ⊢
  have hA : ∀ q : Nat, s.heap.size ≤ q → A q := fun q h => by rw [← hAe]; exact Or.inr h
  have hS : va_S A s.heap s.heap [] := va_S.rf
  have hP : va_P D vwCl [((t 0), .inr (6, [.ref (t 1), .int 0, .ref (n 0), .ref (v 0), .ref (t 2), .ref (t 3), .ref (t 4), .ref (t 5), .ref (d 0), .ref (t 6), .ref (t 7)])), ((n 0), .inr (5, [.int 0, .int 0, .int 3, .int 8, .int 4, .int 4, .int 0, .int 0, .int 0, .int 0, .int 0, .ref (n 1), .ref (n 2), .ref (n 3), .ref (n 4), .ref (n 5)])), ((n 1), .inl (k 0, 10, .inl (fun _ => 0))), ((n 2), .inl (k 0, 10, .inl (fun _ => 0))), ((n 3), .inl (k 0, 60, .inl (fun _ => 0))), ((v 0), .inr (5, [.int 0, .int 0, .int 3, .int 8, .int 4, .int 4, .int 0, .int 0, .int 0, .int 0, .int 0, .ref (v 1), .ref (v 2), .ref (v 3), .ref (v 4), .ref (v 5)])), ((v 1), .inl (k 0, 10, .inl (fun _ => 0))), ((v 2), .inl (k 0, 10, .inl (fun _ => 0))), ((v 3), .inl (k 0, 60, .inl (fun _ => 0))), ((v 4), .inl (k 0, 10, .inl (fun _ => 0))), ((v 5), .inl (k 0, 60, .inl (fun _ => 0)))] s.heap := hP
  have hl := lv_entry ([.ref (t 0), .int a]) (n := 2) (Nat.le_of_ble_eq_true rfl)
  rw [lg_entry_eq]
  generalize (lg_sl ([.ref (t 0), .int a]) ++ List.replicate (2 - (lg_sl ([.ref (t 0), .int a])).length) Slot.unset).toArray = ls at hl ⊢
  have hl : lv_has ls 2 [(0, .ref (t 0)), (1, .int a)] := hl
  refine lv_iload_n hx hb dX7_may_0 rfl (lv_at hl 1 rfl) ?_
  refine kS_i (As := [.int a]) (rest := []) (cs := []) ⟨hx, hb, hml, hown, hts⟩ (c_T_isHarmSpan l D k a) (gS mw_707 mw_708 mw_2 mw_709) hd_yX7_isHarmSpan rfl rfl ⟨Nat.le_of_ble_eq_true rfl, Nat.le_of_ble_eq_true rfl⟩ hK (hP.sub (ws' := []) [] rfl) rfl hl.1 rfl (Nat.le_of_ble_eq_true rfl) dX7_may_1 ⟨Nat.le_of_ble_eq_true rfl, Nat.le_of_ble_eq_true rfl⟩ (fun r_1 hr_1 => ?_)
  by_cases hc_2 : 1 ≤ a.toInt ∧ a.toInt ≤ 12
  · obtain rfl : r_1 = 1 := hr_1.trans (if_pos hc_2)
    refine lv_if_eq (tgt := 21) hx hb dX7_may_4 (by decide) (fun c9 => absurd c9 (by decide)) (fun _ => ?_)
    refine lv_aload_n hx hb dX7_may_7 rfl (lv_at hl 0 rfl) ?_
    refine va_get (D := D) (ci := 6) (v := .ref (n 0)) (C := RX7) (T := TX7) (N := 11) hx hb hts inlX7 hown hK hP 0 rfl rfl 2 (by decide) (hts _ mw_20) (fun _ h9 => h9) rfl dX7_may_8 ?_
    refine lv_aload_n hx hb dX7_may_11 rfl (lv_at hl 0 rfl) ?_
    refine va_get (D := D) (ci := 6) (v := .ref (v 0)) (C := RX7) (T := TX7) (N := 11) hx hb hts inlX7 hown hK hP 0 rfl rfl 3 (by decide) (hts _ mw_21) (fun _ h9 => h9) rfl dX7_may_12 ?_
    refine kV_ui (q0 := 0) (As := [.ref (v 0)]) (rest := []) (wc := [((n 0), .inr (5, [.int 0, .int 0, .int 3, .int 8, .int 4, .int 4, .int 0, .int 0, .int 0, .int 0, .int 0, .ref (n 1), .ref (n 2), .ref (n 3), .ref (n 4), .ref (n 5)])), ((n 1), .inl (k 0, 10, .inl (fun _ => 0))), ((n 2), .inl (k 0, 10, .inl (fun _ => 0))), ((n 3), .inl (k 0, 60, .inl (fun _ => 0))), ((v 0), .inr (5, [.int 0, .int 0, .int 3, .int 8, .int 4, .int 4, .int 0, .int 0, .int 0, .int 0, .int 0, .ref (v 1), .ref (v 2), .ref (v 3), .ref (v 4), .ref (v 5)])), ((v 1), .inl (k 0, 10, .inl (fun _ => 0))), ((v 2), .inl (k 0, 10, .inl (fun _ => 0))), ((v 3), .inl (k 0, 60, .inl (fun _ => 0))), ((v 4), .inl (k 0, 10, .inl (fun _ => 0))), ((v 5), .inl (k 0, 60, .inl (fun _ => 0)))]) (wr := [((t 0), .inr (6, [.ref (t 1), .int 0, .ref (n 0), .ref (v 0), .ref (t 2), .ref (t 3), .ref (t 4), .ref (t 5), .ref (d 0), .ref (t 6), .ref (t 7)]))]) ⟨hx, hb, hml, hown, hts⟩ (c_W_drySkippers l D k n _ 0 0 _) (gV mw_714 mw_715 mw_716 mw_19 mw_717) hd_yX6_drySkippers rfl rfl ⟨Nat.le_of_ble_eq_true rfl, Nat.le_of_ble_eq_true rfl⟩ hK hP hD hS hA [1, 2, 3, 4, 5, 6, 7, 8, 9, 10] [0] rfl rfl (by decide) (by decide) (by decide) rfl rfl rfl rfl hl.1 rfl (Nat.le_of_ble_eq_true rfl) dX7_may_15 ⟨Nat.le_of_ble_eq_true rfl, Nat.le_of_ble_eq_true rfl⟩ (fun r_3 u_4 H locs hw hP hD hS => ?_)
    obtain ⟨v_5, rfl⟩ : ∃ z, z = u_4 := ⟨_, rfl⟩
    have hr_3 := hw
    have hP : va_P D vwCl [((t 0), .inr (6, [.ref (t 1), .int 0, .ref (n 0), .ref (v 0), .ref (t 2), .ref (t 3), .ref (t 4), .ref (t 5), .ref (d 0), .ref (t 6), .ref (t 7)])), ((n 0), .inr (5, [.int 0, .int 0, .int 3, .int 8, .int 4, .int 4, .int 0, .int 0, .int 0, .int 0, .int 0, .ref (n 1), .ref (n 2), .ref (n 3), .ref (n 4), .ref (n 5)])), ((n 1), .inl (k 0, 10, .inl (fun _ => 0))), ((n 2), .inl (k 0, 10, .inl (fun _ => 0))), ((n 3), .inl (k 0, 60, .inl (fun _ => 0))), ((v 0), .inr (5, [.int 0, .int v_5, .int 3, .int 8, .int 4, .int 4, .int 0, .int 0, .int 0, .int 0, .int 0, .ref (v 1), .ref (v 2), .ref (v 3), .ref (v 4), .ref (v 5)])), ((v 1), .inl (k 0, 10, .inl (fun _ => 0))), ((v 2), .inl (k 0, 10, .inl (fun _ => 0))), ((v 3), .inl (k 0, 60, .inl (fun _ => 0))), ((v 4), .inl (k 0, 10, .inl (fun _ => 0))), ((v 5), .inl (k 0, 60, .inl (fun _ => 0)))] H := hP
    have hD : va_D A [((t 0), .inr (6, [.ref (t 1), .int 0, .ref (n 0), .ref (v 0), .ref (t 2), .ref (t 3), .ref (t 4), .ref (t 5), .ref (d 0), .ref (t 6), .ref (t 7)])), ((n 0), .inr (5, [.int 0, .int 0, .int 3, .int 8, .int 4, .int 4, .int 0, .int 0, .int 0, .int 0, .int 0, .ref (n 1), .ref (n 2), .ref (n 3), .ref (n 4), .ref (n 5)])), ((n 1), .inl (k 0, 10, .inl (fun _ => 0))), ((n 2), .inl (k 0, 10, .inl (fun _ => 0))), ((n 3), .inl (k 0, 60, .inl (fun _ => 0))), ((v 0), .inr (5, [.int 0, .int v_5, .int 3, .int 8, .int 4, .int 4, .int 0, .int 0, .int 0, .int 0, .int 0, .ref (v 1), .ref (v 2), .ref (v 3), .ref (v 4), .ref (v 5)])), ((v 1), .inl (k 0, 10, .inl (fun _ => 0))), ((v 2), .inl (k 0, 10, .inl (fun _ => 0))), ((v 3), .inl (k 0, 60, .inl (fun _ => 0))), ((v 4), .inl (k 0, 10, .inl (fun _ => 0))), ((v 5), .inl (k 0, 60, .inl (fun _ => 0)))] := hD
    obtain rfl : r_3 = 0 := hr_3
    refine lv_goto (tgt := 23) hx hb dX7_may_18 (by decide) ?_
    have hP9 := hP.sub (ws' := []) [] rfl
    have hD9 := hD.sub (ws' := []) [] (by decide) rfl
    exact W.iret (v := 0) hx hb hr (fun t ht hW => ⟨⟨0, (), rfl, (by (repeat' split) <;> first | rfl | (exfalso; omega)), by rw [ht]; exact hP9, hD9⟩, hS.F ht⟩) hS.2.2 dX7_may_23
  have hr_1 := hr_1.trans (if_neg hc_2)
  obtain rfl : r_1 = 0 := hr_1
  refine lv_if_eq (tgt := 21) hx hb dX7_may_4 (by decide) (fun _ => ?_) (fun c9 => absurd c9 (by decide))
  refine lv_bipush (v := (-3)) hx hb dX7_may_21 (by decide) ?_
  have hP9 := hP.sub (ws' := []) [] rfl
  have hD9 := hD.sub (ws' := []) [] (by decide) rfl
  exact W.iret (v := (-3)) hx hb hr (fun t ht hW => ⟨⟨(-3), (), rfl, (by (repeat' split) <;> first | rfl | (exfalso; omega)), by rw [ht]; exact hP9, hD9⟩, hS.F ht⟩) hS.2.2 dX7_may_23
set_option maxHeartbeats 4000000 in
set_option maxRecDepth 100000 in
theorem c_T_laziest (l : Launch) (D : va_G) (k : Nat → ClassId) (t : Nat → Nat) (n : Nat → Nat) (v : Nat → Nat) (d : Nat → Nat) (a : Int32) (sz : Nat) : Met l yX7_laziest (Cond.code yX7_laziest cX7_laziest 2 (some .int) :: wsL_law) ({ frames := 3, cells := 0, slots := 0, locals := 180 } : Room) (va_Pc [.ref (t 0), .int a] (pu D k sz [((t 0), .inr (6, [.ref (t 1), .int 0, .ref (n 0), .ref (v 0), .ref (t 2), .ref (t 3), .ref (t 4), .ref (t 5), .ref (d 0), .ref (t 6), .ref (t 7)])), ((n 0), .inr (5, [.int 0, .int 0, .int 3, .int 8, .int 4, .int 4, .int 0, .int 0, .int 0, .int 0, .int 0, .ref (n 1), .ref (n 2), .ref (n 3), .ref (n 4), .ref (n 5)])), ((n 1), .inl (k 0, 10, .inl (fun _ => 0))), ((n 2), .inl (k 0, 10, .inl (fun _ => 0))), ((n 3), .inl (k 0, 60, .inl (fun _ => 0))), ((v 0), .inr (5, [.int 0, .int 0, .int 3, .int 8, .int 4, .int 4, .int 0, .int 0, .int 0, .int 0, .int 0, .ref (v 1), .ref (v 2), .ref (v 3), .ref (v 4), .ref (v 5)])), ((v 1), .inl (k 0, 10, .inl (fun _ => 0))), ((v 2), .inl (k 0, 10, .inl (fun _ => 0))), ((v 3), .inl (k 0, 60, .inl (fun _ => 0))), ((v 4), .inl (k 0, 10, .inl (fun _ => 0))), ((v 5), .inl (k 0, 60, .inl (fun _ => 0)))])) (va_Qi (fun rr (uu : Unit) => rr = if 1 ≤ a.toInt ∧ a.toInt ≤ 12 then 0 else (-3)) (qu D (va_A [((t 0), .inr (6, [.ref (t 1), .int 0, .ref (n 0), .ref (v 0), .ref (t 2), .ref (t 3), .ref (t 4), .ref (t 5), .ref (d 0), .ref (t 6), .ref (t 7)])), ((n 0), .inr (5, [.int 0, .int 0, .int 3, .int 8, .int 4, .int 4, .int 0, .int 0, .int 0, .int 0, .int 0, .ref (n 1), .ref (n 2), .ref (n 3), .ref (n 4), .ref (n 5)])), ((n 1), .inl (k 0, 10, .inl (fun _ => 0))), ((n 2), .inl (k 0, 10, .inl (fun _ => 0))), ((n 3), .inl (k 0, 60, .inl (fun _ => 0))), ((v 0), .inr (5, [.int 0, .int 0, .int 3, .int 8, .int 4, .int 4, .int 0, .int 0, .int 0, .int 0, .int 0, .ref (v 1), .ref (v 2), .ref (v 3), .ref (v 4), .ref (v 5)])), ((v 1), .inl (k 0, 10, .inl (fun _ => 0))), ((v 2), .inl (k 0, 10, .inl (fun _ => 0))), ((v 3), .inl (k 0, 60, .inl (fun _ => 0))), ((v 4), .inl (k 0, 10, .inl (fun _ => 0))), ((v 5), .inl (k 0, 60, .inl (fun _ => 0)))] sz) (fun uu : Unit => [])) (va_A [((t 0), .inr (6, [.ref (t 1), .int 0, .ref (n 0), .ref (v 0), .ref (t 2), .ref (t 3), .ref (t 4), .ref (t 5), .ref (d 0), .ref (t 6), .ref (t 7)])), ((n 0), .inr (5, [.int 0, .int 0, .int 3, .int 8, .int 4, .int 4, .int 0, .int 0, .int 0, .int 0, .int 0, .ref (n 1), .ref (n 2), .ref (n 3), .ref (n 4), .ref (n 5)])), ((n 1), .inl (k 0, 10, .inl (fun _ => 0))), ((n 2), .inl (k 0, 10, .inl (fun _ => 0))), ((n 3), .inl (k 0, 60, .inl (fun _ => 0))), ((v 0), .inr (5, [.int 0, .int 0, .int 3, .int 8, .int 4, .int 4, .int 0, .int 0, .int 0, .int 0, .int 0, .ref (v 1), .ref (v 2), .ref (v 3), .ref (v 4), .ref (v 5)])), ((v 1), .inl (k 0, 10, .inl (fun _ => 0))), ((v 2), .inl (k 0, 10, .inl (fun _ => 0))), ((v 3), .inl (k 0, 60, .inl (fun _ => 0))), ((v 4), .inl (k 0, 10, .inl (fun _ => 0))), ((v 5), .inl (k 0, 60, .inl (fun _ => 0)))] sz)) 0 0 (va_A [((t 0), .inr (6, [.ref (t 1), .int 0, .ref (n 0), .ref (v 0), .ref (t 2), .ref (t 3), .ref (t 4), .ref (t 5), .ref (d 0), .ref (t 6), .ref (t 7)])), ((n 0), .inr (5, [.int 0, .int 0, .int 3, .int 8, .int 4, .int 4, .int 0, .int 0, .int 0, .int 0, .int 0, .ref (n 1), .ref (n 2), .ref (n 3), .ref (n 4), .ref (n 5)])), ((n 1), .inl (k 0, 10, .inl (fun _ => 0))), ((n 2), .inl (k 0, 10, .inl (fun _ => 0))), ((n 3), .inl (k 0, 60, .inl (fun _ => 0))), ((v 0), .inr (5, [.int 0, .int 0, .int 3, .int 8, .int 4, .int 4, .int 0, .int 0, .int 0, .int 0, .int 0, .ref (v 1), .ref (v 2), .ref (v 3), .ref (v 4), .ref (v 5)])), ((v 1), .inl (k 0, 10, .inl (fun _ => 0))), ((v 2), .inl (k 0, 10, .inl (fun _ => 0))), ((v 3), .inl (k 0, 60, .inl (fun _ => 0))), ((v 4), .inl (k 0, 10, .inl (fun _ => 0))), ((v 5), .inl (k 0, 60, .inl (fun _ => 0)))] sz) := by
  refine Met.ofW (cc := cX7_laziest) (maxL := 2) (ret := (some .int)) (by decide) rfl ?_
  intro p e s m args below meth c s₁ B hml hv
  obtain ⟨rfl, hsz, hP, hK, hD0⟩ := hv
  have hx := B.exec
  have hb := B.bytes
  have hr := B.returns
  have hts : ∀ w ∈ wsL_law, w.before _ s = true := fun w h => atoms_spec (ws := Cond.code yX7_laziest cX7_laziest 2 (some .int) :: wsL_law) B.pre w (List.mem_cons_of_mem _ h)
  have hown : s.vm.findClass RX7 = some m.cls := findClass_of_methodNamed B.named
  have hlocks := B.notSynchronized
  subst hsz
  have hD := hD0.self (sz := s.heap.size)
  generalize hAe : va_A [((t 0), .inr (6, [.ref (t 1), .int 0, .ref (n 0), .ref (v 0), .ref (t 2), .ref (t 3), .ref (t 4), .ref (t 5), .ref (d 0), .ref (t 6), .ref (t 7)])), ((n 0), .inr (5, [.int 0, .int 0, .int 3, .int 8, .int 4, .int 4, .int 0, .int 0, .int 0, .int 0, .int 0, .ref (n 1), .ref (n 2), .ref (n 3), .ref (n 4), .ref (n 5)])), ((n 1), .inl (k 0, 10, .inl (fun _ => 0))), ((n 2), .inl (k 0, 10, .inl (fun _ => 0))), ((n 3), .inl (k 0, 60, .inl (fun _ => 0))), ((v 0), .inr (5, [.int 0, .int 0, .int 3, .int 8, .int 4, .int 4, .int 0, .int 0, .int 0, .int 0, .int 0, .ref (v 1), .ref (v 2), .ref (v 3), .ref (v 4), .ref (v 5)])), ((v 1), .inl (k 0, 10, .inl (fun _ => 0))), ((v 2), .inl (k 0, 10, .inl (fun _ => 0))), ((v 3), .inl (k 0, 60, .inl (fun _ => 0))), ((v 4), .inl (k 0, 10, .inl (fun _ => 0))), ((v 5), .inl (k 0, 60, .inl (fun _ => 0)))] s.heap.size = A at hD ⊢
  have hA : ∀ q : Nat, s.heap.size ≤ q → A q := fun q h => by rw [← hAe]; exact Or.inr h
  have hS : va_S A s.heap s.heap [] := va_S.rf
  have hP : va_P D vwCl [((t 0), .inr (6, [.ref (t 1), .int 0, .ref (n 0), .ref (v 0), .ref (t 2), .ref (t 3), .ref (t 4), .ref (t 5), .ref (d 0), .ref (t 6), .ref (t 7)])), ((n 0), .inr (5, [.int 0, .int 0, .int 3, .int 8, .int 4, .int 4, .int 0, .int 0, .int 0, .int 0, .int 0, .ref (n 1), .ref (n 2), .ref (n 3), .ref (n 4), .ref (n 5)])), ((n 1), .inl (k 0, 10, .inl (fun _ => 0))), ((n 2), .inl (k 0, 10, .inl (fun _ => 0))), ((n 3), .inl (k 0, 60, .inl (fun _ => 0))), ((v 0), .inr (5, [.int 0, .int 0, .int 3, .int 8, .int 4, .int 4, .int 0, .int 0, .int 0, .int 0, .int 0, .ref (v 1), .ref (v 2), .ref (v 3), .ref (v 4), .ref (v 5)])), ((v 1), .inl (k 0, 10, .inl (fun _ => 0))), ((v 2), .inl (k 0, 10, .inl (fun _ => 0))), ((v 3), .inl (k 0, 60, .inl (fun _ => 0))), ((v 4), .inl (k 0, 10, .inl (fun _ => 0))), ((v 5), .inl (k 0, 60, .inl (fun _ => 0)))] s.heap := hP
  have hl := lv_entry ([.ref (t 0), .int a]) (n := 2) (Nat.le_of_ble_eq_true rfl)
  rw [lg_entry_eq]
  generalize (lg_sl ([.ref (t 0), .int a]) ++ List.replicate (2 - (lg_sl ([.ref (t 0), .int a])).length) Slot.unset).toArray = ls at hl ⊢
  have hl : lv_has ls 2 [(0, .ref (t 0)), (1, .int a)] := hl
  refine lv_iload_n hx hb dX7_laziest_0 rfl (lv_at hl 1 rfl) ?_
  refine kS_i (As := [.int a]) (rest := []) (cs := []) ⟨hx, hb, hml, hown, hts⟩ (c_T_isHarmSpan l D k a) (gS mw_707 mw_708 mw_2 mw_709) hd_yX7_isHarmSpan rfl rfl ⟨Nat.le_of_ble_eq_true rfl, Nat.le_of_ble_eq_true rfl⟩ hK (hP.sub (ws' := []) [] rfl) rfl hl.1 rfl (Nat.le_of_ble_eq_true rfl) dX7_laziest_1 ⟨Nat.le_of_ble_eq_true rfl, Nat.le_of_ble_eq_true rfl⟩ (fun r_1 hr_1 => ?_)
  by_cases hc_2 : 1 ≤ a.toInt ∧ a.toInt ≤ 12
  · obtain rfl : r_1 = 1 := hr_1.trans (if_pos hc_2)
    refine lv_if_eq (tgt := 21) hx hb dX7_laziest_4 (by decide) (fun c9 => absurd c9 (by decide)) (fun _ => ?_)
    refine lv_aload_n hx hb dX7_laziest_7 rfl (lv_at hl 0 rfl) ?_
    refine va_get (D := D) (ci := 6) (v := .ref (n 0)) (C := RX7) (T := TX7) (N := 11) hx hb hts inlX7 hown hK hP 0 rfl rfl 2 (by decide) (hts _ mw_20) (fun _ h9 => h9) rfl dX7_laziest_8 ?_
    refine lv_aload_n hx hb dX7_laziest_11 rfl (lv_at hl 0 rfl) ?_
    refine va_get (D := D) (ci := 6) (v := .ref (v 0)) (C := RX7) (T := TX7) (N := 11) hx hb hts inlX7 hown hK hP 0 rfl rfl 3 (by decide) (hts _ mw_21) (fun _ h9 => h9) rfl dX7_laziest_12 ?_
    refine kV_ui (q0 := 0) (As := [.ref (v 0)]) (rest := []) (wc := [((n 0), .inr (5, [.int 0, .int 0, .int 3, .int 8, .int 4, .int 4, .int 0, .int 0, .int 0, .int 0, .int 0, .ref (n 1), .ref (n 2), .ref (n 3), .ref (n 4), .ref (n 5)])), ((n 1), .inl (k 0, 10, .inl (fun _ => 0))), ((n 2), .inl (k 0, 10, .inl (fun _ => 0))), ((n 3), .inl (k 0, 60, .inl (fun _ => 0))), ((v 0), .inr (5, [.int 0, .int 0, .int 3, .int 8, .int 4, .int 4, .int 0, .int 0, .int 0, .int 0, .int 0, .ref (v 1), .ref (v 2), .ref (v 3), .ref (v 4), .ref (v 5)])), ((v 1), .inl (k 0, 10, .inl (fun _ => 0))), ((v 2), .inl (k 0, 10, .inl (fun _ => 0))), ((v 3), .inl (k 0, 60, .inl (fun _ => 0))), ((v 4), .inl (k 0, 10, .inl (fun _ => 0))), ((v 5), .inl (k 0, 60, .inl (fun _ => 0)))]) (wr := [((t 0), .inr (6, [.ref (t 1), .int 0, .ref (n 0), .ref (v 0), .ref (t 2), .ref (t 3), .ref (t 4), .ref (t 5), .ref (d 0), .ref (t 6), .ref (t 7)]))]) ⟨hx, hb, hml, hown, hts⟩ (c_W_drySkippers l D k n _ 0 0 _) (gV mw_714 mw_715 mw_716 mw_19 mw_717) hd_yX6_drySkippers rfl rfl ⟨Nat.le_of_ble_eq_true rfl, Nat.le_of_ble_eq_true rfl⟩ hK hP hD hS hA [1, 2, 3, 4, 5, 6, 7, 8, 9, 10] [0] rfl rfl (by decide) (by decide) (by decide) rfl rfl rfl rfl hl.1 rfl (Nat.le_of_ble_eq_true rfl) dX7_laziest_15 ⟨Nat.le_of_ble_eq_true rfl, Nat.le_of_ble_eq_true rfl⟩ (fun r_3 u_4 H locs hw hP hD hS => ?_)
    obtain ⟨v_5, rfl⟩ : ∃ z, z = u_4 := ⟨_, rfl⟩
    have hr_3 := hw
    have hP : va_P D vwCl [((t 0), .inr (6, [.ref (t 1), .int 0, .ref (n 0), .ref (v 0), .ref (t 2), .ref (t 3), .ref (t 4), .ref (t 5), .ref (d 0), .ref (t 6), .ref (t 7)])), ((n 0), .inr (5, [.int 0, .int 0, .int 3, .int 8, .int 4, .int 4, .int 0, .int 0, .int 0, .int 0, .int 0, .ref (n 1), .ref (n 2), .ref (n 3), .ref (n 4), .ref (n 5)])), ((n 1), .inl (k 0, 10, .inl (fun _ => 0))), ((n 2), .inl (k 0, 10, .inl (fun _ => 0))), ((n 3), .inl (k 0, 60, .inl (fun _ => 0))), ((v 0), .inr (5, [.int 0, .int v_5, .int 3, .int 8, .int 4, .int 4, .int 0, .int 0, .int 0, .int 0, .int 0, .ref (v 1), .ref (v 2), .ref (v 3), .ref (v 4), .ref (v 5)])), ((v 1), .inl (k 0, 10, .inl (fun _ => 0))), ((v 2), .inl (k 0, 10, .inl (fun _ => 0))), ((v 3), .inl (k 0, 60, .inl (fun _ => 0))), ((v 4), .inl (k 0, 10, .inl (fun _ => 0))), ((v 5), .inl (k 0, 60, .inl (fun _ => 0)))] H := hP
    have hD : va_D A [((t 0), .inr (6, [.ref (t 1), .int 0, .ref (n 0), .ref (v 0), .ref (t 2), .ref (t 3), .ref (t 4), .ref (t 5), .ref (d 0), .ref (t 6), .ref (t 7)])), ((n 0), .inr (5, [.int 0, .int 0, .int 3, .int 8, .int 4, .int 4, .int 0, .int 0, .int 0, .int 0, .int 0, .ref (n 1), .ref (n 2), .ref (n 3), .ref (n 4), .ref (n 5)])), ((n 1), .inl (k 0, 10, .inl (fun _ => 0))), ((n 2), .inl (k 0, 10, .inl (fun _ => 0))), ((n 3), .inl (k 0, 60, .inl (fun _ => 0))), ((v 0), .inr (5, [.int 0, .int v_5, .int 3, .int 8, .int 4, .int 4, .int 0, .int 0, .int 0, .int 0, .int 0, .ref (v 1), .ref (v 2), .ref (v 3), .ref (v 4), .ref (v 5)])), ((v 1), .inl (k 0, 10, .inl (fun _ => 0))), ((v 2), .inl (k 0, 10, .inl (fun _ => 0))), ((v 3), .inl (k 0, 60, .inl (fun _ => 0))), ((v 4), .inl (k 0, 10, .inl (fun _ => 0))), ((v 5), .inl (k 0, 60, .inl (fun _ => 0)))] := hD
    obtain rfl : r_3 = 0 := hr_3
    refine lv_goto (tgt := 23) hx hb dX7_laziest_18 (by decide) ?_
    have hP9 := hP.sub (ws' := []) [] rfl
    have hD9 := hD.sub (ws' := []) [] (by decide) rfl
    exact W.iret (v := 0) hx hb hr (fun t ht hW => ⟨⟨0, (), rfl, (by (repeat' split) <;> first | rfl | (exfalso; omega)), by rw [ht]; exact hP9, hD9⟩, hS.F ht⟩) hS.2.2 dX7_laziest_23
  have hr_1 := hr_1.trans (if_neg hc_2)
  obtain rfl : r_1 = 0 := hr_1
  refine lv_if_eq (tgt := 21) hx hb dX7_laziest_4 (by decide) (fun _ => ?_) (fun c9 => absurd c9 (by decide))
  refine lv_bipush (v := (-3)) hx hb dX7_laziest_21 (by decide) ?_
  have hP9 := hP.sub (ws' := []) [] rfl
  have hD9 := hD.sub (ws' := []) [] (by decide) rfl
  exact W.iret (v := (-3)) hx hb hr (fun t ht hW => ⟨⟨(-3), (), rfl, (by (repeat' split) <;> first | rfl | (exfalso; omega)), by rw [ht]; exact hP9, hD9⟩, hS.F ht⟩) hS.2.2 dX7_laziest_23
set_option maxHeartbeats 4000000 in
set_option maxRecDepth 100000 in
theorem c_T_dry (l : Launch) (D : va_G) (k : Nat → ClassId) (t : Nat → Nat) (n : Nat → Nat) (v : Nat → Nat) (d : Nat → Nat) (d0 : Nat → Nat) (d1 : Nat → Nat) (d2 : Nat → Nat) (d3 : Nat → Nat) (d4 : Nat → Nat) (y0 : Int32) (y1 : Int32) (y2 : Int32) (y3 : Int32) (y4 : Int32) (a : Int32) (x : Int32) (sz : Nat) : Met l yX7_dry (Cond.code yX7_dry cX7_dry 4 (some .int) :: wsL_law) ({ frames := 10, cells := 0, slots := 0, locals := 600 } : Room) (va_Pc [.ref (t 0), .int a, .int x] (pu D k sz [((t 0), .inr (6, [.ref (t 1), .int 0, .ref (n 0), .ref (v 0), .ref (t 2), .ref (t 3), .ref (t 4), .ref (t 5), .ref (d 0), .ref (t 6), .ref (t 7)])), ((d 0), .inr (0, [.int 0, .ref (d 1), .ref (d 2), .ref (d 3), .int 0])), ((d 1), .inl (k 0, 4, .inl (fun _ => 0))), ((d 2), .inl (k 0, 4, .inl (fun _ => 0))), ((d 3), .inl (k 4, 5, .inr (.inr (.inr (.inr (va_rs [(d0 0), (d1 0), (d2 0), (d3 0), (d4 0)])))))), ((d0 0), .inr (5, [.int 0, .int y0, .int 3, .int 8, .int 4, .int 4, .int 0, .int 0, .int 0, .int 0, .int 0, .ref (d0 1), .ref (d0 2), .ref (d0 3), .ref (d0 4), .ref (d0 5)])), ((d0 1), .inl (k 0, 10, .inl (fun _ => 0))), ((d0 2), .inl (k 0, 10, .inl (fun _ => 0))), ((d0 3), .inl (k 0, 60, .inl (fun _ => 0))), ((d0 4), .inl (k 0, 10, .inl (fun _ => 0))), ((d0 5), .inl (k 0, 60, .inl (fun _ => 0))), ((d1 0), .inr (5, [.int 0, .int y1, .int 3, .int 8, .int 4, .int 4, .int 0, .int 0, .int 0, .int 0, .int 0, .ref (d1 1), .ref (d1 2), .ref (d1 3), .ref (d1 4), .ref (d1 5)])), ((d1 1), .inl (k 0, 10, .inl (fun _ => 0))), ((d1 2), .inl (k 0, 10, .inl (fun _ => 0))), ((d1 3), .inl (k 0, 60, .inl (fun _ => 0))), ((d1 4), .inl (k 0, 10, .inl (fun _ => 0))), ((d1 5), .inl (k 0, 60, .inl (fun _ => 0))), ((d2 0), .inr (5, [.int 0, .int y2, .int 3, .int 8, .int 4, .int 4, .int 0, .int 0, .int 0, .int 0, .int 0, .ref (d2 1), .ref (d2 2), .ref (d2 3), .ref (d2 4), .ref (d2 5)])), ((d2 1), .inl (k 0, 10, .inl (fun _ => 0))), ((d2 2), .inl (k 0, 10, .inl (fun _ => 0))), ((d2 3), .inl (k 0, 60, .inl (fun _ => 0))), ((d2 4), .inl (k 0, 10, .inl (fun _ => 0))), ((d2 5), .inl (k 0, 60, .inl (fun _ => 0))), ((d3 0), .inr (5, [.int 0, .int y3, .int 3, .int 8, .int 4, .int 4, .int 0, .int 0, .int 0, .int 0, .int 0, .ref (d3 1), .ref (d3 2), .ref (d3 3), .ref (d3 4), .ref (d3 5)])), ((d3 1), .inl (k 0, 10, .inl (fun _ => 0))), ((d3 2), .inl (k 0, 10, .inl (fun _ => 0))), ((d3 3), .inl (k 0, 60, .inl (fun _ => 0))), ((d3 4), .inl (k 0, 10, .inl (fun _ => 0))), ((d3 5), .inl (k 0, 60, .inl (fun _ => 0))), ((d4 0), .inr (5, [.int 0, .int y4, .int 3, .int 8, .int 4, .int 4, .int 0, .int 0, .int 0, .int 0, .int 0, .ref (d4 1), .ref (d4 2), .ref (d4 3), .ref (d4 4), .ref (d4 5)])), ((d4 1), .inl (k 0, 10, .inl (fun _ => 0))), ((d4 2), .inl (k 0, 10, .inl (fun _ => 0))), ((d4 3), .inl (k 0, 60, .inl (fun _ => 0))), ((d4 4), .inl (k 0, 10, .inl (fun _ => 0))), ((d4 5), .inl (k 0, 60, .inl (fun _ => 0))), ((n 0), .inr (5, [.int 0, .int 0, .int 3, .int 8, .int 4, .int 4, .int 0, .int 0, .int 0, .int 0, .int 0, .ref (n 1), .ref (n 2), .ref (n 3), .ref (n 4), .ref (n 5)])), ((n 1), .inl (k 0, 10, .inl (fun _ => 0))), ((n 2), .inl (k 0, 10, .inl (fun _ => 0))), ((n 3), .inl (k 0, 60, .inl (fun _ => 0)))])) (va_Qi (fun rr (uu : Unit) => rr = if ¬ (x.toInt = 0 ∨ (10 ≤ x.toInt ∧ x.toInt ≤ 13)) then (-2) else if ¬ (1 ≤ a.toInt ∧ a.toInt ≤ 4) then (-3) else if x.toInt = 0 ∨ x.toInt - 10 < a.toInt then 0 else (-1)) (qu D (va_A [((t 0), .inr (6, [.ref (t 1), .int 0, .ref (n 0), .ref (v 0), .ref (t 2), .ref (t 3), .ref (t 4), .ref (t 5), .ref (d 0), .ref (t 6), .ref (t 7)])), ((d 0), .inr (0, [.int 0, .ref (d 1), .ref (d 2), .ref (d 3), .int 0])), ((d 1), .inl (k 0, 4, .inl (fun _ => 0))), ((d 2), .inl (k 0, 4, .inl (fun _ => 0))), ((d 3), .inl (k 4, 5, .inr (.inr (.inr (.inr (va_rs [(d0 0), (d1 0), (d2 0), (d3 0), (d4 0)])))))), ((d0 0), .inr (5, [.int 0, .int y0, .int 3, .int 8, .int 4, .int 4, .int 0, .int 0, .int 0, .int 0, .int 0, .ref (d0 1), .ref (d0 2), .ref (d0 3), .ref (d0 4), .ref (d0 5)])), ((d0 1), .inl (k 0, 10, .inl (fun _ => 0))), ((d0 2), .inl (k 0, 10, .inl (fun _ => 0))), ((d0 3), .inl (k 0, 60, .inl (fun _ => 0))), ((d0 4), .inl (k 0, 10, .inl (fun _ => 0))), ((d0 5), .inl (k 0, 60, .inl (fun _ => 0))), ((d1 0), .inr (5, [.int 0, .int y1, .int 3, .int 8, .int 4, .int 4, .int 0, .int 0, .int 0, .int 0, .int 0, .ref (d1 1), .ref (d1 2), .ref (d1 3), .ref (d1 4), .ref (d1 5)])), ((d1 1), .inl (k 0, 10, .inl (fun _ => 0))), ((d1 2), .inl (k 0, 10, .inl (fun _ => 0))), ((d1 3), .inl (k 0, 60, .inl (fun _ => 0))), ((d1 4), .inl (k 0, 10, .inl (fun _ => 0))), ((d1 5), .inl (k 0, 60, .inl (fun _ => 0))), ((d2 0), .inr (5, [.int 0, .int y2, .int 3, .int 8, .int 4, .int 4, .int 0, .int 0, .int 0, .int 0, .int 0, .ref (d2 1), .ref (d2 2), .ref (d2 3), .ref (d2 4), .ref (d2 5)])), ((d2 1), .inl (k 0, 10, .inl (fun _ => 0))), ((d2 2), .inl (k 0, 10, .inl (fun _ => 0))), ((d2 3), .inl (k 0, 60, .inl (fun _ => 0))), ((d2 4), .inl (k 0, 10, .inl (fun _ => 0))), ((d2 5), .inl (k 0, 60, .inl (fun _ => 0))), ((d3 0), .inr (5, [.int 0, .int y3, .int 3, .int 8, .int 4, .int 4, .int 0, .int 0, .int 0, .int 0, .int 0, .ref (d3 1), .ref (d3 2), .ref (d3 3), .ref (d3 4), .ref (d3 5)])), ((d3 1), .inl (k 0, 10, .inl (fun _ => 0))), ((d3 2), .inl (k 0, 10, .inl (fun _ => 0))), ((d3 3), .inl (k 0, 60, .inl (fun _ => 0))), ((d3 4), .inl (k 0, 10, .inl (fun _ => 0))), ((d3 5), .inl (k 0, 60, .inl (fun _ => 0))), ((d4 0), .inr (5, [.int 0, .int y4, .int 3, .int 8, .int 4, .int 4, .int 0, .int 0, .int 0, .int 0, .int 0, .ref (d4 1), .ref (d4 2), .ref (d4 3), .ref (d4 4), .ref (d4 5)])), ((d4 1), .inl (k 0, 10, .inl (fun _ => 0))), ((d4 2), .inl (k 0, 10, .inl (fun _ => 0))), ((d4 3), .inl (k 0, 60, .inl (fun _ => 0))), ((d4 4), .inl (k 0, 10, .inl (fun _ => 0))), ((d4 5), .inl (k 0, 60, .inl (fun _ => 0))), ((n 0), .inr (5, [.int 0, .int 0, .int 3, .int 8, .int 4, .int 4, .int 0, .int 0, .int 0, .int 0, .int 0, .ref (n 1), .ref (n 2), .ref (n 3), .ref (n 4), .ref (n 5)])), ((n 1), .inl (k 0, 10, .inl (fun _ => 0))), ((n 2), .inl (k 0, 10, .inl (fun _ => 0))), ((n 3), .inl (k 0, 60, .inl (fun _ => 0)))] sz) (fun uu : Unit => [])) (va_A [((t 0), .inr (6, [.ref (t 1), .int 0, .ref (n 0), .ref (v 0), .ref (t 2), .ref (t 3), .ref (t 4), .ref (t 5), .ref (d 0), .ref (t 6), .ref (t 7)])), ((d 0), .inr (0, [.int 0, .ref (d 1), .ref (d 2), .ref (d 3), .int 0])), ((d 1), .inl (k 0, 4, .inl (fun _ => 0))), ((d 2), .inl (k 0, 4, .inl (fun _ => 0))), ((d 3), .inl (k 4, 5, .inr (.inr (.inr (.inr (va_rs [(d0 0), (d1 0), (d2 0), (d3 0), (d4 0)])))))), ((d0 0), .inr (5, [.int 0, .int y0, .int 3, .int 8, .int 4, .int 4, .int 0, .int 0, .int 0, .int 0, .int 0, .ref (d0 1), .ref (d0 2), .ref (d0 3), .ref (d0 4), .ref (d0 5)])), ((d0 1), .inl (k 0, 10, .inl (fun _ => 0))), ((d0 2), .inl (k 0, 10, .inl (fun _ => 0))), ((d0 3), .inl (k 0, 60, .inl (fun _ => 0))), ((d0 4), .inl (k 0, 10, .inl (fun _ => 0))), ((d0 5), .inl (k 0, 60, .inl (fun _ => 0))), ((d1 0), .inr (5, [.int 0, .int y1, .int 3, .int 8, .int 4, .int 4, .int 0, .int 0, .int 0, .int 0, .int 0, .ref (d1 1), .ref (d1 2), .ref (d1 3), .ref (d1 4), .ref (d1 5)])), ((d1 1), .inl (k 0, 10, .inl (fun _ => 0))), ((d1 2), .inl (k 0, 10, .inl (fun _ => 0))), ((d1 3), .inl (k 0, 60, .inl (fun _ => 0))), ((d1 4), .inl (k 0, 10, .inl (fun _ => 0))), ((d1 5), .inl (k 0, 60, .inl (fun _ => 0))), ((d2 0), .inr (5, [.int 0, .int y2, .int 3, .int 8, .int 4, .int 4, .int 0, .int 0, .int 0, .int 0, .int 0, .ref (d2 1), .ref (d2 2), .ref (d2 3), .ref (d2 4), .ref (d2 5)])), ((d2 1), .inl (k 0, 10, .inl (fun _ => 0))), ((d2 2), .inl (k 0, 10, .inl (fun _ => 0))), ((d2 3), .inl (k 0, 60, .inl (fun _ => 0))), ((d2 4), .inl (k 0, 10, .inl (fun _ => 0))), ((d2 5), .inl (k 0, 60, .inl (fun _ => 0))), ((d3 0), .inr (5, [.int 0, .int y3, .int 3, .int 8, .int 4, .int 4, .int 0, .int 0, .int 0, .int 0, .int 0, .ref (d3 1), .ref (d3 2), .ref (d3 3), .ref (d3 4), .ref (d3 5)])), ((d3 1), .inl (k 0, 10, .inl (fun _ => 0))), ((d3 2), .inl (k 0, 10, .inl (fun _ => 0))), ((d3 3), .inl (k 0, 60, .inl (fun _ => 0))), ((d3 4), .inl (k 0, 10, .inl (fun _ => 0))), ((d3 5), .inl (k 0, 60, .inl (fun _ => 0))), ((d4 0), .inr (5, [.int 0, .int y4, .int 3, .int 8, .int 4, .int 4, .int 0, .int 0, .int 0, .int 0, .int 0, .ref (d4 1), .ref (d4 2), .ref (d4 3), .ref (d4 4), .ref (d4 5)])), ((d4 1), .inl (k 0, 10, .inl (fun _ => 0))), ((d4 2), .inl (k 0, 10, .inl (fun _ => 0))), ((d4 3), .inl (k 0, 60, .inl (fun _ => 0))), ((d4 4), .inl (k 0, 10, .inl (fun _ => 0))), ((d4 5), .inl (k 0, 60, .inl (fun _ => 0))), ((n 0), .inr (5, [.int 0, .int 0, .int 3, .int 8, .int 4, .int 4, .int 0, .int 0, .int 0, .int 0, .int 0, .ref (n 1), .ref (n 2), .ref (n 3), .ref (n 4), .ref (n 5)])), ((n 1), .inl (k 0, 10, .inl (fun _ => 0))), ((n 2), .inl (k 0, 10, .inl (fun _ => 0))), ((n 3), .inl (k 0, 60, .inl (fun _ => 0)))] sz)) 0 0 (va_A [((t 0), .inr (6, [.ref (t 1), .int 0, .ref (n 0), .ref (v 0), .ref (t 2), .ref (t 3), .ref (t 4), .ref (t 5), .ref (d 0), .ref (t 6), .ref (t 7)])), ((d 0), .inr (0, [.int 0, .ref (d 1), .ref (d 2), .ref (d 3), .int 0])), ((d 1), .inl (k 0, 4, .inl (fun _ => 0))), ((d 2), .inl (k 0, 4, .inl (fun _ => 0))), ((d 3), .inl (k 4, 5, .inr (.inr (.inr (.inr (va_rs [(d0 0), (d1 0), (d2 0), (d3 0), (d4 0)])))))), ((d0 0), .inr (5, [.int 0, .int y0, .int 3, .int 8, .int 4, .int 4, .int 0, .int 0, .int 0, .int 0, .int 0, .ref (d0 1), .ref (d0 2), .ref (d0 3), .ref (d0 4), .ref (d0 5)])), ((d0 1), .inl (k 0, 10, .inl (fun _ => 0))), ((d0 2), .inl (k 0, 10, .inl (fun _ => 0))), ((d0 3), .inl (k 0, 60, .inl (fun _ => 0))), ((d0 4), .inl (k 0, 10, .inl (fun _ => 0))), ((d0 5), .inl (k 0, 60, .inl (fun _ => 0))), ((d1 0), .inr (5, [.int 0, .int y1, .int 3, .int 8, .int 4, .int 4, .int 0, .int 0, .int 0, .int 0, .int 0, .ref (d1 1), .ref (d1 2), .ref (d1 3), .ref (d1 4), .ref (d1 5)])), ((d1 1), .inl (k 0, 10, .inl (fun _ => 0))), ((d1 2), .inl (k 0, 10, .inl (fun _ => 0))), ((d1 3), .inl (k 0, 60, .inl (fun _ => 0))), ((d1 4), .inl (k 0, 10, .inl (fun _ => 0))), ((d1 5), .inl (k 0, 60, .inl (fun _ => 0))), ((d2 0), .inr (5, [.int 0, .int y2, .int 3, .int 8, .int 4, .int 4, .int 0, .int 0, .int 0, .int 0, .int 0, .ref (d2 1), .ref (d2 2), .ref (d2 3), .ref (d2 4), .ref (d2 5)])), ((d2 1), .inl (k 0, 10, .inl (fun _ => 0))), ((d2 2), .inl (k 0, 10, .inl (fun _ => 0))), ((d2 3), .inl (k 0, 60, .inl (fun _ => 0))), ((d2 4), .inl (k 0, 10, .inl (fun _ => 0))), ((d2 5), .inl (k 0, 60, .inl (fun _ => 0))), ((d3 0), .inr (5, [.int 0, .int y3, .int 3, .int 8, .int 4, .int 4, .int 0, .int 0, .int 0, .int 0, .int 0, .ref (d3 1), .ref (d3 2), .ref (d3 3), .ref (d3 4), .ref (d3 5)])), ((d3 1), .inl (k 0, 10, .inl (fun _ => 0))), ((d3 2), .inl (k 0, 10, .inl (fun _ => 0))), ((d3 3), .inl (k 0, 60, .inl (fun _ => 0))), ((d3 4), .inl (k 0, 10, .inl (fun _ => 0))), ((d3 5), .inl (k 0, 60, .inl (fun _ => 0))), ((d4 0), .inr (5, [.int 0, .int y4, .int 3, .int 8, .int 4, .int 4, .int 0, .int 0, .int 0, .int 0, .int 0, .ref (d4 1), .ref (d4 2), .ref (d4 3), .ref (d4 4), .ref (d4 5)])), ((d4 1), .inl (k 0, 10, .inl (fun _ => 0))), ((d4 2), .inl (k 0, 10, .inl (fun _ => 0))), ((d4 3), .inl (k 0, 60, .inl (fun _ => 0))), ((d4 4), .inl (k 0, 10, .inl (fun _ => 0))), ((d4 5), .inl (k 0, 60, .inl (fun _ => 0))), ((n 0), .inr (5, [.int 0, .int 0, .int 3, .int 8, .int 4, .int 4, .int 0, .int 0, .int 0, .int 0, .int 0, .ref (n 1), .ref (n 2), .ref (n 3), .ref (n 4), .ref (n 5)])), ((n 1), .inl (k 0, 10, .inl (fun _ => 0))), ((n 2), .inl (k 0, 10, .inl (fun _ => 0))), ((n 3), .inl (k 0, 60, .inl (fun _ => 0)))] sz) := by
  refine Met.ofW (cc := cX7_dry) (maxL := 4) (ret := (some .int)) (by decide) rfl ?_
  intro p e s m args below meth c s₁ B hml hv
  obtain ⟨rfl, hsz, hP, hK, hD0⟩ := hv
  have hx := B.exec
  have hb := B.bytes
  have hr := B.returns
  have hts : ∀ w ∈ wsL_law, w.before _ s = true := fun w h => atoms_spec (ws := Cond.code yX7_dry cX7_dry 4 (some .int) :: wsL_law) B.pre w (List.mem_cons_of_mem _ h)
  have hown : s.vm.findClass RX7 = some m.cls := findClass_of_methodNamed B.named
  have hlocks := B.notSynchronized
  subst hsz
  have hD := hD0.self (sz := s.heap.size)
  generalize hAe : va_A [((t 0), .inr (6, [.ref (t 1), .int 0, .ref (n 0), .ref (v 0), .ref (t 2), .ref (t 3), .ref (t 4), .ref (t 5), .ref (d 0), .ref (t 6), .ref (t 7)])), ((d 0), .inr (0, [.int 0, .ref (d 1), .ref (d 2), .ref (d 3), .int 0])), ((d 1), .inl (k 0, 4, .inl (fun _ => 0))), ((d 2), .inl (k 0, 4, .inl (fun _ => 0))), ((d 3), .inl (k 4, 5, .inr (.inr (.inr (.inr (va_rs [(d0 0), (d1 0), (d2 0), (d3 0), (d4 0)])))))), ((d0 0), .inr (5, [.int 0, .int y0, .int 3, .int 8, .int 4, .int 4, .int 0, .int 0, .int 0, .int 0, .int 0, .ref (d0 1), .ref (d0 2), .ref (d0 3), .ref (d0 4), .ref (d0 5)])), ((d0 1), .inl (k 0, 10, .inl (fun _ => 0))), ((d0 2), .inl (k 0, 10, .inl (fun _ => 0))), ((d0 3), .inl (k 0, 60, .inl (fun _ => 0))), ((d0 4), .inl (k 0, 10, .inl (fun _ => 0))), ((d0 5), .inl (k 0, 60, .inl (fun _ => 0))), ((d1 0), .inr (5, [.int 0, .int y1, .int 3, .int 8, .int 4, .int 4, .int 0, .int 0, .int 0, .int 0, .int 0, .ref (d1 1), .ref (d1 2), .ref (d1 3), .ref (d1 4), .ref (d1 5)])), ((d1 1), .inl (k 0, 10, .inl (fun _ => 0))), ((d1 2), .inl (k 0, 10, .inl (fun _ => 0))), ((d1 3), .inl (k 0, 60, .inl (fun _ => 0))), ((d1 4), .inl (k 0, 10, .inl (fun _ => 0))), ((d1 5), .inl (k 0, 60, .inl (fun _ => 0))), ((d2 0), .inr (5, [.int 0, .int y2, .int 3, .int 8, .int 4, .int 4, .int 0, .int 0, .int 0, .int 0, .int 0, .ref (d2 1), .ref (d2 2), .ref (d2 3), .ref (d2 4), .ref (d2 5)])), ((d2 1), .inl (k 0, 10, .inl (fun _ => 0))), ((d2 2), .inl (k 0, 10, .inl (fun _ => 0))), ((d2 3), .inl (k 0, 60, .inl (fun _ => 0))), ((d2 4), .inl (k 0, 10, .inl (fun _ => 0))), ((d2 5), .inl (k 0, 60, .inl (fun _ => 0))), ((d3 0), .inr (5, [.int 0, .int y3, .int 3, .int 8, .int 4, .int 4, .int 0, .int 0, .int 0, .int 0, .int 0, .ref (d3 1), .ref (d3 2), .ref (d3 3), .ref (d3 4), .ref (d3 5)])), ((d3 1), .inl (k 0, 10, .inl (fun _ => 0))), ((d3 2), .inl (k 0, 10, .inl (fun _ => 0))), ((d3 3), .inl (k 0, 60, .inl (fun _ => 0))), ((d3 4), .inl (k 0, 10, .inl (fun _ => 0))), ((d3 5), .inl (k 0, 60, .inl (fun _ => 0))), ((d4 0), .inr (5, [.int 0, .int y4, .int 3, .int 8, .int 4, .int 4, .int 0, .int 0, .int 0, .int 0, .int 0, .ref (d4 1), .ref (d4 2), .ref (d4 3), .ref (d4 4), .ref (d4 5)])), ((d4 1), .inl (k 0, 10, .inl (fun _ => 0))), ((d4 2), .inl (k 0, 10, .inl (fun _ => 0))), ((d4 3), .inl (k 0, 60, .inl (fun _ => 0))), ((d4 4), .inl (k 0, 10, .inl (fun _ => 0))), ((d4 5), .inl (k 0, 60, .inl (fun _ => 0))), ((n 0), .inr (5, [.int 0, .int 0, .int 3, .int 8, .int 4, .int 4, .int 0, .int 0, .int 0, .int 0, .int 0, .ref (n 1), .ref (n 2), .ref (n 3), .ref (n 4), .ref (n 5)])), ((n 1), .inl (k 0, 10, .inl (fun _ => 0))), ((n 2), .inl (k 0, 10, .inl (fun _ => 0))), ((n 3), .inl (k 0, 60, .inl (fun _ => 0)))] s.heap.size = A at hD ⊢
  have hA : ∀ q : Nat, s.heap.size ≤ q → A q := fun q h => by rw [← hAe]; exact Or.inr h
  have hS : va_S A s.heap s.heap [] := va_S.rf
  have hP : va_P D vwCl [((t 0), .inr (6, [.ref (t 1), .int 0, .ref (n 0), .ref (v 0), .ref (t 2), .ref (t 3), .ref (t 4), .ref (t 5), .ref (d 0), .ref (t 6), .ref (t 7)])), ((d 0), .inr (0, [.int 0, .ref (d 1), .ref (d 2), .ref (d 3), .int 0])), ((d 1), .inl (k 0, 4, .inl (fun _ => 0))), ((d 2), .inl (k 0, 4, .inl (fun _ => 0))), ((d 3), .inl (k 4, 5, .inr (.inr (.inr (.inr (va_rs [(d0 0), (d1 0), (d2 0), (d3 0), (d4 0)])))))), ((d0 0), .inr (5, [.int 0, .int y0, .int 3, .int 8, .int 4, .int 4, .int 0, .int 0, .int 0, .int 0, .int 0, .ref (d0 1), .ref (d0 2), .ref (d0 3), .ref (d0 4), .ref (d0 5)])), ((d0 1), .inl (k 0, 10, .inl (fun _ => 0))), ((d0 2), .inl (k 0, 10, .inl (fun _ => 0))), ((d0 3), .inl (k 0, 60, .inl (fun _ => 0))), ((d0 4), .inl (k 0, 10, .inl (fun _ => 0))), ((d0 5), .inl (k 0, 60, .inl (fun _ => 0))), ((d1 0), .inr (5, [.int 0, .int y1, .int 3, .int 8, .int 4, .int 4, .int 0, .int 0, .int 0, .int 0, .int 0, .ref (d1 1), .ref (d1 2), .ref (d1 3), .ref (d1 4), .ref (d1 5)])), ((d1 1), .inl (k 0, 10, .inl (fun _ => 0))), ((d1 2), .inl (k 0, 10, .inl (fun _ => 0))), ((d1 3), .inl (k 0, 60, .inl (fun _ => 0))), ((d1 4), .inl (k 0, 10, .inl (fun _ => 0))), ((d1 5), .inl (k 0, 60, .inl (fun _ => 0))), ((d2 0), .inr (5, [.int 0, .int y2, .int 3, .int 8, .int 4, .int 4, .int 0, .int 0, .int 0, .int 0, .int 0, .ref (d2 1), .ref (d2 2), .ref (d2 3), .ref (d2 4), .ref (d2 5)])), ((d2 1), .inl (k 0, 10, .inl (fun _ => 0))), ((d2 2), .inl (k 0, 10, .inl (fun _ => 0))), ((d2 3), .inl (k 0, 60, .inl (fun _ => 0))), ((d2 4), .inl (k 0, 10, .inl (fun _ => 0))), ((d2 5), .inl (k 0, 60, .inl (fun _ => 0))), ((d3 0), .inr (5, [.int 0, .int y3, .int 3, .int 8, .int 4, .int 4, .int 0, .int 0, .int 0, .int 0, .int 0, .ref (d3 1), .ref (d3 2), .ref (d3 3), .ref (d3 4), .ref (d3 5)])), ((d3 1), .inl (k 0, 10, .inl (fun _ => 0))), ((d3 2), .inl (k 0, 10, .inl (fun _ => 0))), ((d3 3), .inl (k 0, 60, .inl (fun _ => 0))), ((d3 4), .inl (k 0, 10, .inl (fun _ => 0))), ((d3 5), .inl (k 0, 60, .inl (fun _ => 0))), ((d4 0), .inr (5, [.int 0, .int y4, .int 3, .int 8, .int 4, .int 4, .int 0, .int 0, .int 0, .int 0, .int 0, .ref (d4 1), .ref (d4 2), .ref (d4 3), .ref (d4 4), .ref (d4 5)])), ((d4 1), .inl (k 0, 10, .inl (fun _ => 0))), ((d4 2), .inl (k 0, 10, .inl (fun _ => 0))), ((d4 3), .inl (k 0, 60, .inl (fun _ => 0))), ((d4 4), .inl (k 0, 10, .inl (fun _ => 0))), ((d4 5), .inl (k 0, 60, .inl (fun _ => 0))), ((n 0), .inr (5, [.int 0, .int 0, .int 3, .int 8, .int 4, .int 4, .int 0, .int 0, .int 0, .int 0, .int 0, .ref (n 1), .ref (n 2), .ref (n 3), .ref (n 4), .ref (n 5)])), ((n 1), .inl (k 0, 10, .inl (fun _ => 0))), ((n 2), .inl (k 0, 10, .inl (fun _ => 0))), ((n 3), .inl (k 0, 60, .inl (fun _ => 0)))] s.heap := hP
  have hl := lv_entry ([.ref (t 0), .int a, .int x]) (n := 4) (Nat.le_of_ble_eq_true rfl)
  rw [lg_entry_eq]
  generalize (lg_sl ([.ref (t 0), .int a, .int x]) ++ List.replicate (4 - (lg_sl ([.ref (t 0), .int a, .int x])).length) Slot.unset).toArray = ls at hl ⊢
  have hl : lv_has ls 4 [(0, .ref (t 0)), (1, .int a), (2, .int x)] := hl
  refine lv_iload_n hx hb dX7_dry_0 rfl (lv_at hl 2 rfl) ?_
  refine lv_if_eq (tgt := 19) hx hb dX7_dry_1 (by decide) (fun c_1 => ?_) (fun c_1 => ?_)
  · have c_1 : x.toInt = 0 := ti_eq c_1
    have qc_1 : x = 0 := ti_of (show x.toInt = 0 from by omega)
    refine lv_iload_n hx hb dX7_dry_19 rfl (lv_at hl 1 rfl) ?_
    refine lv_iconst (v := 1) hx hb dX7_dry_20 (by decide) ?_
    refine lv_icmp_lt (tgt := 29) hx hb dX7_dry_21 (by decide) (fun c_2 => ?_) (fun c_2 => ?_)
    · have c_2 : a.toInt < 1 := ti_lt c_2
      refine lv_bipush (v := (-3)) hx hb dX7_dry_29 (by decide) ?_
      have hP9 := hP.sub (ws' := []) [] rfl
      have hD9 := hD.sub (ws' := []) [] (by decide) rfl
      exact W.iret (v := (-3)) hx hb hr (fun t ht hW => ⟨⟨(-3), (), rfl, (by (repeat' split) <;> first | rfl | (exfalso; omega)), by rw [ht]; exact hP9, hD9⟩, hS.F ht⟩) hS.2.2 dX7_dry_31
    · have c_2 : 1 ≤ a.toInt := ti_nlt c_2
      refine lv_iload_n hx hb dX7_dry_24 rfl (lv_at hl 1 rfl) ?_
      refine lv_iconst (v := 4) hx hb dX7_dry_25 (by decide) ?_
      refine lv_icmp_le (tgt := 32) hx hb dX7_dry_26 (by decide) (fun c_3 => ?_) (fun c_3 => ?_)
      · have c_3 : a.toInt ≤ 4 := ti_le c_3
        refine lv_aload_n hx hb dX7_dry_32 rfl (lv_at hl 0 rfl) ?_
        refine va_get (D := D) (ci := 6) (v := .ref (n 0)) (C := RX7) (T := TX7) (N := 11) hx hb hts inlX7 hown hK hP 0 rfl rfl 2 (by decide) (hts _ mw_20) (fun _ h9 => h9) rfl dX7_dry_33 ?_
        refine va_get (D := D) (ci := 5) (v := .int 0) (C := RX6) (T := TX6) (N := 16) hx hb hts inlX6 hown hK hP 35 rfl rfl 0 (by decide) (hts _ mw_622) (fun _ h9 => h9) rfl dX7_dry_36 ?_
        refine lv_iconst (v := 4) hx hb dX7_dry_39 (by decide) ?_
        refine lv_icmp_le (tgt := 46) hx hb dX7_dry_40 (by decide) (fun _ => ?_) (fun c9 => absurd c9 (by decide))
        rcases (show a.toInt = 1 ∨ a.toInt = 2 ∨ a.toInt = 3 ∨ a.toInt = 4 from by omega) with c_4 | c_5 | c_6 | c_7
        · have qc_4 : a = 1 := ti_of (show a.toInt = 1 from c_4)
          refine lv_aload_n hx hb dX7_dry_46 rfl (lv_at hl 0 rfl) ?_
          refine va_get (D := D) (ci := 6) (v := .ref (d 0)) (C := RX7) (T := TX7) (N := 11) hx hb hts inlX7 hown hK hP 0 rfl rfl 8 (by decide) (hts _ mw_34) (fun _ h9 => h9) rfl dX7_dry_47 ?_
          refine lv_aload_n hx hb dX7_dry_50 rfl (lv_at hl 0 rfl) ?_
          refine va_get (D := D) (ci := 6) (v := .ref (n 0)) (C := RX7) (T := TX7) (N := 11) hx hb hts inlX7 hown hK hP 0 rfl rfl 2 (by decide) (hts _ mw_20) (fun _ h9 => h9) rfl dX7_dry_51 ?_
          refine lv_iload_n hx hb dX7_dry_54 rfl (lv_at hl 1 rfl) ?_
          refine lv_ni (v := 1) (qc_4) ?_
          refine kV_uv (q0 := 0) (As := [.ref (n 0), .int 1]) (rest := []) (wc := [((d 0), .inr (0, [.int 0, .ref (d 1), .ref (d 2), .ref (d 3), .int 0])), ((d 1), .inl (k 0, 4, .inl (fun _ => 0))), ((d 2), .inl (k 0, 4, .inl (fun _ => 0))), ((d 3), .inl (k 4, 5, .inr (.inr (.inr (.inr (va_rs [(d0 0), (d1 0), (d2 0), (d3 0), (d4 0)])))))), ((d0 0), .inr (5, [.int 0, .int y0, .int 3, .int 8, .int 4, .int 4, .int 0, .int 0, .int 0, .int 0, .int 0, .ref (d0 1), .ref (d0 2), .ref (d0 3), .ref (d0 4), .ref (d0 5)])), ((d0 1), .inl (k 0, 10, .inl (fun _ => 0))), ((d0 2), .inl (k 0, 10, .inl (fun _ => 0))), ((d0 3), .inl (k 0, 60, .inl (fun _ => 0))), ((d0 4), .inl (k 0, 10, .inl (fun _ => 0))), ((d0 5), .inl (k 0, 60, .inl (fun _ => 0))), ((d1 0), .inr (5, [.int 0, .int y1, .int 3, .int 8, .int 4, .int 4, .int 0, .int 0, .int 0, .int 0, .int 0, .ref (d1 1), .ref (d1 2), .ref (d1 3), .ref (d1 4), .ref (d1 5)])), ((d1 1), .inl (k 0, 10, .inl (fun _ => 0))), ((d1 2), .inl (k 0, 10, .inl (fun _ => 0))), ((d1 3), .inl (k 0, 60, .inl (fun _ => 0))), ((d1 4), .inl (k 0, 10, .inl (fun _ => 0))), ((d1 5), .inl (k 0, 60, .inl (fun _ => 0))), ((d2 0), .inr (5, [.int 0, .int y2, .int 3, .int 8, .int 4, .int 4, .int 0, .int 0, .int 0, .int 0, .int 0, .ref (d2 1), .ref (d2 2), .ref (d2 3), .ref (d2 4), .ref (d2 5)])), ((d2 1), .inl (k 0, 10, .inl (fun _ => 0))), ((d2 2), .inl (k 0, 10, .inl (fun _ => 0))), ((d2 3), .inl (k 0, 60, .inl (fun _ => 0))), ((d2 4), .inl (k 0, 10, .inl (fun _ => 0))), ((d2 5), .inl (k 0, 60, .inl (fun _ => 0))), ((d3 0), .inr (5, [.int 0, .int y3, .int 3, .int 8, .int 4, .int 4, .int 0, .int 0, .int 0, .int 0, .int 0, .ref (d3 1), .ref (d3 2), .ref (d3 3), .ref (d3 4), .ref (d3 5)])), ((d3 1), .inl (k 0, 10, .inl (fun _ => 0))), ((d3 2), .inl (k 0, 10, .inl (fun _ => 0))), ((d3 3), .inl (k 0, 60, .inl (fun _ => 0))), ((d3 4), .inl (k 0, 10, .inl (fun _ => 0))), ((d3 5), .inl (k 0, 60, .inl (fun _ => 0))), ((d4 0), .inr (5, [.int 0, .int y4, .int 3, .int 8, .int 4, .int 4, .int 0, .int 0, .int 0, .int 0, .int 0, .ref (d4 1), .ref (d4 2), .ref (d4 3), .ref (d4 4), .ref (d4 5)])), ((d4 1), .inl (k 0, 10, .inl (fun _ => 0))), ((d4 2), .inl (k 0, 10, .inl (fun _ => 0))), ((d4 3), .inl (k 0, 60, .inl (fun _ => 0))), ((d4 4), .inl (k 0, 10, .inl (fun _ => 0))), ((d4 5), .inl (k 0, 60, .inl (fun _ => 0))), ((n 0), .inr (5, [.int 0, .int 0, .int 3, .int 8, .int 4, .int 4, .int 0, .int 0, .int 0, .int 0, .int 0, .ref (n 1), .ref (n 2), .ref (n 3), .ref (n 4), .ref (n 5)])), ((n 1), .inl (k 0, 10, .inl (fun _ => 0))), ((n 2), .inl (k 0, 10, .inl (fun _ => 0))), ((n 3), .inl (k 0, 60, .inl (fun _ => 0)))]) (wr := [((t 0), .inr (6, [.ref (t 1), .int 0, .ref (n 0), .ref (v 0), .ref (t 2), .ref (t 3), .ref (t 4), .ref (t 5), .ref (d 0), .ref (t 6), .ref (t 7)]))]) ⟨hx, hb, hml, hown, hts⟩ (c_D_find1 l D k _ _ _ _ _ _ y0 y1 y2 y3 y4 _ _) (gV mw_777 mw_778 mw_779 mw_33 mw_780) hd_yX0_find rfl rfl ⟨Nat.le_of_ble_eq_true rfl, Nat.le_of_ble_eq_true rfl⟩ hK hP hD hS hA [1, 2, 3, 4, 5, 6, 7, 8, 9, 10, 11, 12, 13, 14, 15, 16, 17, 18, 19, 20, 21, 22, 23, 24, 25, 26, 27, 28, 29, 30, 31, 32, 33, 34, 35, 36, 37, 38] [0] rfl rfl (by decide) (by decide) (by decide) rfl rfl rfl rfl hl.1 rfl (Nat.le_of_ble_eq_true rfl) dX7_dry_55 ⟨Nat.le_of_ble_eq_true rfl, Nat.le_of_ble_eq_true rfl⟩ (fun u_9 H locs hw hP hD hS => ?_)
          have hP : va_P D vwCl [((t 0), .inr (6, [.ref (t 1), .int 0, .ref (n 0), .ref (v 0), .ref (t 2), .ref (t 3), .ref (t 4), .ref (t 5), .ref (d 0), .ref (t 6), .ref (t 7)])), ((d 0), .inr (0, [.int 0, .ref (d 1), .ref (d 2), .ref (d 3), .int 1])), ((d 1), .inl (k 0, 4, .inl (fun _ => 0))), ((d 2), .inl (k 0, 4, .inl (fun _ => 0))), ((d 3), .inl (k 4, 5, .inr (.inr (.inr (.inr (va_rs [(d0 0), (d1 0), (d2 0), (d3 0), (d4 0)]))))))] H := hP
          have hD : va_D A [((t 0), .inr (6, [.ref (t 1), .int 0, .ref (n 0), .ref (v 0), .ref (t 2), .ref (t 3), .ref (t 4), .ref (t 5), .ref (d 0), .ref (t 6), .ref (t 7)])), ((d 0), .inr (0, [.int 0, .ref (d 1), .ref (d 2), .ref (d 3), .int 1])), ((d 1), .inl (k 0, 4, .inl (fun _ => 0))), ((d 2), .inl (k 0, 4, .inl (fun _ => 0))), ((d 3), .inl (k 4, 5, .inr (.inr (.inr (.inr (va_rs [(d0 0), (d1 0), (d2 0), (d3 0), (d4 0)]))))))] := hD
          refine lv_iload_n hx hb dX7_dry_58 rfl (lv_at hl 2 rfl) ?_
          refine lv_ni (v := 0) (qc_1) ?_
          refine lv_if_ne (tgt := 70) hx hb dX7_dry_59 (by decide) (fun c9 => absurd c9 (by decide)) (fun _ => ?_)
          refine lv_aload_n hx hb dX7_dry_62 rfl (lv_at hl 0 rfl) ?_
          refine va_get (D := D) (ci := 6) (v := .ref (d 0)) (C := RX7) (T := TX7) (N := 11) hx hb hts inlX7 hown hK hP 0 rfl rfl 8 (by decide) (hts _ mw_34) (fun _ h9 => h9) rfl dX7_dry_63 ?_
          refine va_get (D := D) (ci := 0) (v := .int 0) (C := RX0) (T := TX0) (N := 5) hx hb hts inlX0 hown hK hP 1 rfl rfl 0 (by decide) (hts _ mw_775) (fun _ h9 => h9) rfl dX7_dry_66 ?_
          have hP9 := hP.sub (ws' := []) [] rfl
          have hD9 := hD.sub (ws' := []) [] (by decide) rfl
          exact W.iret (v := 0) hx hb hr (fun t ht hW => ⟨⟨0, (), rfl, (by (repeat' split) <;> first | rfl | (exfalso; omega)), by rw [ht]; exact hP9, hD9⟩, hS.F ht⟩) hS.2.2 dX7_dry_69
        · have qc_5 : a = 2 := ti_of (show a.toInt = 2 from c_5)
          refine lv_aload_n hx hb dX7_dry_46 rfl (lv_at hl 0 rfl) ?_
          refine va_get (D := D) (ci := 6) (v := .ref (d 0)) (C := RX7) (T := TX7) (N := 11) hx hb hts inlX7 hown hK hP 0 rfl rfl 8 (by decide) (hts _ mw_34) (fun _ h9 => h9) rfl dX7_dry_47 ?_
          refine lv_aload_n hx hb dX7_dry_50 rfl (lv_at hl 0 rfl) ?_
          refine va_get (D := D) (ci := 6) (v := .ref (n 0)) (C := RX7) (T := TX7) (N := 11) hx hb hts inlX7 hown hK hP 0 rfl rfl 2 (by decide) (hts _ mw_20) (fun _ h9 => h9) rfl dX7_dry_51 ?_
          refine lv_iload_n hx hb dX7_dry_54 rfl (lv_at hl 1 rfl) ?_
          refine lv_ni (v := 2) (qc_5) ?_
          refine kV_uv (q0 := 0) (As := [.ref (n 0), .int 2]) (rest := []) (wc := [((d 0), .inr (0, [.int 0, .ref (d 1), .ref (d 2), .ref (d 3), .int 0])), ((d 1), .inl (k 0, 4, .inl (fun _ => 0))), ((d 2), .inl (k 0, 4, .inl (fun _ => 0))), ((d 3), .inl (k 4, 5, .inr (.inr (.inr (.inr (va_rs [(d0 0), (d1 0), (d2 0), (d3 0), (d4 0)])))))), ((d0 0), .inr (5, [.int 0, .int y0, .int 3, .int 8, .int 4, .int 4, .int 0, .int 0, .int 0, .int 0, .int 0, .ref (d0 1), .ref (d0 2), .ref (d0 3), .ref (d0 4), .ref (d0 5)])), ((d0 1), .inl (k 0, 10, .inl (fun _ => 0))), ((d0 2), .inl (k 0, 10, .inl (fun _ => 0))), ((d0 3), .inl (k 0, 60, .inl (fun _ => 0))), ((d0 4), .inl (k 0, 10, .inl (fun _ => 0))), ((d0 5), .inl (k 0, 60, .inl (fun _ => 0))), ((d1 0), .inr (5, [.int 0, .int y1, .int 3, .int 8, .int 4, .int 4, .int 0, .int 0, .int 0, .int 0, .int 0, .ref (d1 1), .ref (d1 2), .ref (d1 3), .ref (d1 4), .ref (d1 5)])), ((d1 1), .inl (k 0, 10, .inl (fun _ => 0))), ((d1 2), .inl (k 0, 10, .inl (fun _ => 0))), ((d1 3), .inl (k 0, 60, .inl (fun _ => 0))), ((d1 4), .inl (k 0, 10, .inl (fun _ => 0))), ((d1 5), .inl (k 0, 60, .inl (fun _ => 0))), ((d2 0), .inr (5, [.int 0, .int y2, .int 3, .int 8, .int 4, .int 4, .int 0, .int 0, .int 0, .int 0, .int 0, .ref (d2 1), .ref (d2 2), .ref (d2 3), .ref (d2 4), .ref (d2 5)])), ((d2 1), .inl (k 0, 10, .inl (fun _ => 0))), ((d2 2), .inl (k 0, 10, .inl (fun _ => 0))), ((d2 3), .inl (k 0, 60, .inl (fun _ => 0))), ((d2 4), .inl (k 0, 10, .inl (fun _ => 0))), ((d2 5), .inl (k 0, 60, .inl (fun _ => 0))), ((d3 0), .inr (5, [.int 0, .int y3, .int 3, .int 8, .int 4, .int 4, .int 0, .int 0, .int 0, .int 0, .int 0, .ref (d3 1), .ref (d3 2), .ref (d3 3), .ref (d3 4), .ref (d3 5)])), ((d3 1), .inl (k 0, 10, .inl (fun _ => 0))), ((d3 2), .inl (k 0, 10, .inl (fun _ => 0))), ((d3 3), .inl (k 0, 60, .inl (fun _ => 0))), ((d3 4), .inl (k 0, 10, .inl (fun _ => 0))), ((d3 5), .inl (k 0, 60, .inl (fun _ => 0))), ((d4 0), .inr (5, [.int 0, .int y4, .int 3, .int 8, .int 4, .int 4, .int 0, .int 0, .int 0, .int 0, .int 0, .ref (d4 1), .ref (d4 2), .ref (d4 3), .ref (d4 4), .ref (d4 5)])), ((d4 1), .inl (k 0, 10, .inl (fun _ => 0))), ((d4 2), .inl (k 0, 10, .inl (fun _ => 0))), ((d4 3), .inl (k 0, 60, .inl (fun _ => 0))), ((d4 4), .inl (k 0, 10, .inl (fun _ => 0))), ((d4 5), .inl (k 0, 60, .inl (fun _ => 0))), ((n 0), .inr (5, [.int 0, .int 0, .int 3, .int 8, .int 4, .int 4, .int 0, .int 0, .int 0, .int 0, .int 0, .ref (n 1), .ref (n 2), .ref (n 3), .ref (n 4), .ref (n 5)])), ((n 1), .inl (k 0, 10, .inl (fun _ => 0))), ((n 2), .inl (k 0, 10, .inl (fun _ => 0))), ((n 3), .inl (k 0, 60, .inl (fun _ => 0)))]) (wr := [((t 0), .inr (6, [.ref (t 1), .int 0, .ref (n 0), .ref (v 0), .ref (t 2), .ref (t 3), .ref (t 4), .ref (t 5), .ref (d 0), .ref (t 6), .ref (t 7)]))]) ⟨hx, hb, hml, hown, hts⟩ (c_D_find2 l D k _ _ _ _ _ _ y0 y1 y2 y3 y4 _ _) (gV mw_777 mw_778 mw_779 mw_33 mw_780) hd_yX0_find rfl rfl ⟨Nat.le_of_ble_eq_true rfl, Nat.le_of_ble_eq_true rfl⟩ hK hP hD hS hA [1, 2, 3, 4, 5, 6, 7, 8, 9, 10, 11, 12, 13, 14, 15, 16, 17, 18, 19, 20, 21, 22, 23, 24, 25, 26, 27, 28, 29, 30, 31, 32, 33, 34, 35, 36, 37, 38] [0] rfl rfl (by decide) (by decide) (by decide) rfl rfl rfl rfl hl.1 rfl (Nat.le_of_ble_eq_true rfl) dX7_dry_55 ⟨Nat.le_of_ble_eq_true rfl, Nat.le_of_ble_eq_true rfl⟩ (fun u_11 H locs hw hP hD hS => ?_)
          have hP : va_P D vwCl [((t 0), .inr (6, [.ref (t 1), .int 0, .ref (n 0), .ref (v 0), .ref (t 2), .ref (t 3), .ref (t 4), .ref (t 5), .ref (d 0), .ref (t 6), .ref (t 7)])), ((d 0), .inr (0, [.int 0, .ref (d 1), .ref (d 2), .ref (d 3), .int 2])), ((d 1), .inl (k 0, 4, .inl (fun _ => 0))), ((d 2), .inl (k 0, 4, .inl (fun _ => 0))), ((d 3), .inl (k 4, 5, .inr (.inr (.inr (.inr (va_rs [(d0 0), (d1 0), (d2 0), (d3 0), (d4 0)]))))))] H := hP
          have hD : va_D A [((t 0), .inr (6, [.ref (t 1), .int 0, .ref (n 0), .ref (v 0), .ref (t 2), .ref (t 3), .ref (t 4), .ref (t 5), .ref (d 0), .ref (t 6), .ref (t 7)])), ((d 0), .inr (0, [.int 0, .ref (d 1), .ref (d 2), .ref (d 3), .int 2])), ((d 1), .inl (k 0, 4, .inl (fun _ => 0))), ((d 2), .inl (k 0, 4, .inl (fun _ => 0))), ((d 3), .inl (k 4, 5, .inr (.inr (.inr (.inr (va_rs [(d0 0), (d1 0), (d2 0), (d3 0), (d4 0)]))))))] := hD
          refine lv_iload_n hx hb dX7_dry_58 rfl (lv_at hl 2 rfl) ?_
          refine lv_ni (v := 0) (qc_1) ?_
          refine lv_if_ne (tgt := 70) hx hb dX7_dry_59 (by decide) (fun c9 => absurd c9 (by decide)) (fun _ => ?_)
          refine lv_aload_n hx hb dX7_dry_62 rfl (lv_at hl 0 rfl) ?_
          refine va_get (D := D) (ci := 6) (v := .ref (d 0)) (C := RX7) (T := TX7) (N := 11) hx hb hts inlX7 hown hK hP 0 rfl rfl 8 (by decide) (hts _ mw_34) (fun _ h9 => h9) rfl dX7_dry_63 ?_
          refine va_get (D := D) (ci := 0) (v := .int 0) (C := RX0) (T := TX0) (N := 5) hx hb hts inlX0 hown hK hP 1 rfl rfl 0 (by decide) (hts _ mw_775) (fun _ h9 => h9) rfl dX7_dry_66 ?_
          have hP9 := hP.sub (ws' := []) [] rfl
          have hD9 := hD.sub (ws' := []) [] (by decide) rfl
          exact W.iret (v := 0) hx hb hr (fun t ht hW => ⟨⟨0, (), rfl, (by (repeat' split) <;> first | rfl | (exfalso; omega)), by rw [ht]; exact hP9, hD9⟩, hS.F ht⟩) hS.2.2 dX7_dry_69
        · have qc_6 : a = 3 := ti_of (show a.toInt = 3 from c_6)
          refine lv_aload_n hx hb dX7_dry_46 rfl (lv_at hl 0 rfl) ?_
          refine va_get (D := D) (ci := 6) (v := .ref (d 0)) (C := RX7) (T := TX7) (N := 11) hx hb hts inlX7 hown hK hP 0 rfl rfl 8 (by decide) (hts _ mw_34) (fun _ h9 => h9) rfl dX7_dry_47 ?_
          refine lv_aload_n hx hb dX7_dry_50 rfl (lv_at hl 0 rfl) ?_
          refine va_get (D := D) (ci := 6) (v := .ref (n 0)) (C := RX7) (T := TX7) (N := 11) hx hb hts inlX7 hown hK hP 0 rfl rfl 2 (by decide) (hts _ mw_20) (fun _ h9 => h9) rfl dX7_dry_51 ?_
          refine lv_iload_n hx hb dX7_dry_54 rfl (lv_at hl 1 rfl) ?_
          refine lv_ni (v := 3) (qc_6) ?_
          refine kV_uv (q0 := 0) (As := [.ref (n 0), .int 3]) (rest := []) (wc := [((d 0), .inr (0, [.int 0, .ref (d 1), .ref (d 2), .ref (d 3), .int 0])), ((d 1), .inl (k 0, 4, .inl (fun _ => 0))), ((d 2), .inl (k 0, 4, .inl (fun _ => 0))), ((d 3), .inl (k 4, 5, .inr (.inr (.inr (.inr (va_rs [(d0 0), (d1 0), (d2 0), (d3 0), (d4 0)])))))), ((d0 0), .inr (5, [.int 0, .int y0, .int 3, .int 8, .int 4, .int 4, .int 0, .int 0, .int 0, .int 0, .int 0, .ref (d0 1), .ref (d0 2), .ref (d0 3), .ref (d0 4), .ref (d0 5)])), ((d0 1), .inl (k 0, 10, .inl (fun _ => 0))), ((d0 2), .inl (k 0, 10, .inl (fun _ => 0))), ((d0 3), .inl (k 0, 60, .inl (fun _ => 0))), ((d0 4), .inl (k 0, 10, .inl (fun _ => 0))), ((d0 5), .inl (k 0, 60, .inl (fun _ => 0))), ((d1 0), .inr (5, [.int 0, .int y1, .int 3, .int 8, .int 4, .int 4, .int 0, .int 0, .int 0, .int 0, .int 0, .ref (d1 1), .ref (d1 2), .ref (d1 3), .ref (d1 4), .ref (d1 5)])), ((d1 1), .inl (k 0, 10, .inl (fun _ => 0))), ((d1 2), .inl (k 0, 10, .inl (fun _ => 0))), ((d1 3), .inl (k 0, 60, .inl (fun _ => 0))), ((d1 4), .inl (k 0, 10, .inl (fun _ => 0))), ((d1 5), .inl (k 0, 60, .inl (fun _ => 0))), ((d2 0), .inr (5, [.int 0, .int y2, .int 3, .int 8, .int 4, .int 4, .int 0, .int 0, .int 0, .int 0, .int 0, .ref (d2 1), .ref (d2 2), .ref (d2 3), .ref (d2 4), .ref (d2 5)])), ((d2 1), .inl (k 0, 10, .inl (fun _ => 0))), ((d2 2), .inl (k 0, 10, .inl (fun _ => 0))), ((d2 3), .inl (k 0, 60, .inl (fun _ => 0))), ((d2 4), .inl (k 0, 10, .inl (fun _ => 0))), ((d2 5), .inl (k 0, 60, .inl (fun _ => 0))), ((d3 0), .inr (5, [.int 0, .int y3, .int 3, .int 8, .int 4, .int 4, .int 0, .int 0, .int 0, .int 0, .int 0, .ref (d3 1), .ref (d3 2), .ref (d3 3), .ref (d3 4), .ref (d3 5)])), ((d3 1), .inl (k 0, 10, .inl (fun _ => 0))), ((d3 2), .inl (k 0, 10, .inl (fun _ => 0))), ((d3 3), .inl (k 0, 60, .inl (fun _ => 0))), ((d3 4), .inl (k 0, 10, .inl (fun _ => 0))), ((d3 5), .inl (k 0, 60, .inl (fun _ => 0))), ((d4 0), .inr (5, [.int 0, .int y4, .int 3, .int 8, .int 4, .int 4, .int 0, .int 0, .int 0, .int 0, .int 0, .ref (d4 1), .ref (d4 2), .ref (d4 3), .ref (d4 4), .ref (d4 5)])), ((d4 1), .inl (k 0, 10, .inl (fun _ => 0))), ((d4 2), .inl (k 0, 10, .inl (fun _ => 0))), ((d4 3), .inl (k 0, 60, .inl (fun _ => 0))), ((d4 4), .inl (k 0, 10, .inl (fun _ => 0))), ((d4 5), .inl (k 0, 60, .inl (fun _ => 0))), ((n 0), .inr (5, [.int 0, .int 0, .int 3, .int 8, .int 4, .int 4, .int 0, .int 0, .int 0, .int 0, .int 0, .ref (n 1), .ref (n 2), .ref (n 3), .ref (n 4), .ref (n 5)])), ((n 1), .inl (k 0, 10, .inl (fun _ => 0))), ((n 2), .inl (k 0, 10, .inl (fun _ => 0))), ((n 3), .inl (k 0, 60, .inl (fun _ => 0)))]) (wr := [((t 0), .inr (6, [.ref (t 1), .int 0, .ref (n 0), .ref (v 0), .ref (t 2), .ref (t 3), .ref (t 4), .ref (t 5), .ref (d 0), .ref (t 6), .ref (t 7)]))]) ⟨hx, hb, hml, hown, hts⟩ (c_D_find3 l D k _ _ _ _ _ _ y0 y1 y2 y3 y4 _ _) (gV mw_777 mw_778 mw_779 mw_33 mw_780) hd_yX0_find rfl rfl ⟨Nat.le_of_ble_eq_true rfl, Nat.le_of_ble_eq_true rfl⟩ hK hP hD hS hA [1, 2, 3, 4, 5, 6, 7, 8, 9, 10, 11, 12, 13, 14, 15, 16, 17, 18, 19, 20, 21, 22, 23, 24, 25, 26, 27, 28, 29, 30, 31, 32, 33, 34, 35, 36, 37, 38] [0] rfl rfl (by decide) (by decide) (by decide) rfl rfl rfl rfl hl.1 rfl (Nat.le_of_ble_eq_true rfl) dX7_dry_55 ⟨Nat.le_of_ble_eq_true rfl, Nat.le_of_ble_eq_true rfl⟩ (fun u_13 H locs hw hP hD hS => ?_)
          have hP : va_P D vwCl [((t 0), .inr (6, [.ref (t 1), .int 0, .ref (n 0), .ref (v 0), .ref (t 2), .ref (t 3), .ref (t 4), .ref (t 5), .ref (d 0), .ref (t 6), .ref (t 7)])), ((d 0), .inr (0, [.int 0, .ref (d 1), .ref (d 2), .ref (d 3), .int 3])), ((d 1), .inl (k 0, 4, .inl (fun _ => 0))), ((d 2), .inl (k 0, 4, .inl (fun _ => 0))), ((d 3), .inl (k 4, 5, .inr (.inr (.inr (.inr (va_rs [(d0 0), (d1 0), (d2 0), (d3 0), (d4 0)]))))))] H := hP
          have hD : va_D A [((t 0), .inr (6, [.ref (t 1), .int 0, .ref (n 0), .ref (v 0), .ref (t 2), .ref (t 3), .ref (t 4), .ref (t 5), .ref (d 0), .ref (t 6), .ref (t 7)])), ((d 0), .inr (0, [.int 0, .ref (d 1), .ref (d 2), .ref (d 3), .int 3])), ((d 1), .inl (k 0, 4, .inl (fun _ => 0))), ((d 2), .inl (k 0, 4, .inl (fun _ => 0))), ((d 3), .inl (k 4, 5, .inr (.inr (.inr (.inr (va_rs [(d0 0), (d1 0), (d2 0), (d3 0), (d4 0)]))))))] := hD
          refine lv_iload_n hx hb dX7_dry_58 rfl (lv_at hl 2 rfl) ?_
          refine lv_ni (v := 0) (qc_1) ?_
          refine lv_if_ne (tgt := 70) hx hb dX7_dry_59 (by decide) (fun c9 => absurd c9 (by decide)) (fun _ => ?_)
          refine lv_aload_n hx hb dX7_dry_62 rfl (lv_at hl 0 rfl) ?_
          refine va_get (D := D) (ci := 6) (v := .ref (d 0)) (C := RX7) (T := TX7) (N := 11) hx hb hts inlX7 hown hK hP 0 rfl rfl 8 (by decide) (hts _ mw_34) (fun _ h9 => h9) rfl dX7_dry_63 ?_
          refine va_get (D := D) (ci := 0) (v := .int 0) (C := RX0) (T := TX0) (N := 5) hx hb hts inlX0 hown hK hP 1 rfl rfl 0 (by decide) (hts _ mw_775) (fun _ h9 => h9) rfl dX7_dry_66 ?_
          have hP9 := hP.sub (ws' := []) [] rfl
          have hD9 := hD.sub (ws' := []) [] (by decide) rfl
          exact W.iret (v := 0) hx hb hr (fun t ht hW => ⟨⟨0, (), rfl, (by (repeat' split) <;> first | rfl | (exfalso; omega)), by rw [ht]; exact hP9, hD9⟩, hS.F ht⟩) hS.2.2 dX7_dry_69
        · have qc_7 : a = 4 := ti_of (show a.toInt = 4 from c_7)
          refine lv_aload_n hx hb dX7_dry_46 rfl (lv_at hl 0 rfl) ?_
          refine va_get (D := D) (ci := 6) (v := .ref (d 0)) (C := RX7) (T := TX7) (N := 11) hx hb hts inlX7 hown hK hP 0 rfl rfl 8 (by decide) (hts _ mw_34) (fun _ h9 => h9) rfl dX7_dry_47 ?_
          refine lv_aload_n hx hb dX7_dry_50 rfl (lv_at hl 0 rfl) ?_
          refine va_get (D := D) (ci := 6) (v := .ref (n 0)) (C := RX7) (T := TX7) (N := 11) hx hb hts inlX7 hown hK hP 0 rfl rfl 2 (by decide) (hts _ mw_20) (fun _ h9 => h9) rfl dX7_dry_51 ?_
          refine lv_iload_n hx hb dX7_dry_54 rfl (lv_at hl 1 rfl) ?_
          refine lv_ni (v := 4) (qc_7) ?_
          refine kV_uv (q0 := 0) (As := [.ref (n 0), .int 4]) (rest := []) (wc := [((d 0), .inr (0, [.int 0, .ref (d 1), .ref (d 2), .ref (d 3), .int 0])), ((d 1), .inl (k 0, 4, .inl (fun _ => 0))), ((d 2), .inl (k 0, 4, .inl (fun _ => 0))), ((d 3), .inl (k 4, 5, .inr (.inr (.inr (.inr (va_rs [(d0 0), (d1 0), (d2 0), (d3 0), (d4 0)])))))), ((d0 0), .inr (5, [.int 0, .int y0, .int 3, .int 8, .int 4, .int 4, .int 0, .int 0, .int 0, .int 0, .int 0, .ref (d0 1), .ref (d0 2), .ref (d0 3), .ref (d0 4), .ref (d0 5)])), ((d0 1), .inl (k 0, 10, .inl (fun _ => 0))), ((d0 2), .inl (k 0, 10, .inl (fun _ => 0))), ((d0 3), .inl (k 0, 60, .inl (fun _ => 0))), ((d0 4), .inl (k 0, 10, .inl (fun _ => 0))), ((d0 5), .inl (k 0, 60, .inl (fun _ => 0))), ((d1 0), .inr (5, [.int 0, .int y1, .int 3, .int 8, .int 4, .int 4, .int 0, .int 0, .int 0, .int 0, .int 0, .ref (d1 1), .ref (d1 2), .ref (d1 3), .ref (d1 4), .ref (d1 5)])), ((d1 1), .inl (k 0, 10, .inl (fun _ => 0))), ((d1 2), .inl (k 0, 10, .inl (fun _ => 0))), ((d1 3), .inl (k 0, 60, .inl (fun _ => 0))), ((d1 4), .inl (k 0, 10, .inl (fun _ => 0))), ((d1 5), .inl (k 0, 60, .inl (fun _ => 0))), ((d2 0), .inr (5, [.int 0, .int y2, .int 3, .int 8, .int 4, .int 4, .int 0, .int 0, .int 0, .int 0, .int 0, .ref (d2 1), .ref (d2 2), .ref (d2 3), .ref (d2 4), .ref (d2 5)])), ((d2 1), .inl (k 0, 10, .inl (fun _ => 0))), ((d2 2), .inl (k 0, 10, .inl (fun _ => 0))), ((d2 3), .inl (k 0, 60, .inl (fun _ => 0))), ((d2 4), .inl (k 0, 10, .inl (fun _ => 0))), ((d2 5), .inl (k 0, 60, .inl (fun _ => 0))), ((d3 0), .inr (5, [.int 0, .int y3, .int 3, .int 8, .int 4, .int 4, .int 0, .int 0, .int 0, .int 0, .int 0, .ref (d3 1), .ref (d3 2), .ref (d3 3), .ref (d3 4), .ref (d3 5)])), ((d3 1), .inl (k 0, 10, .inl (fun _ => 0))), ((d3 2), .inl (k 0, 10, .inl (fun _ => 0))), ((d3 3), .inl (k 0, 60, .inl (fun _ => 0))), ((d3 4), .inl (k 0, 10, .inl (fun _ => 0))), ((d3 5), .inl (k 0, 60, .inl (fun _ => 0))), ((d4 0), .inr (5, [.int 0, .int y4, .int 3, .int 8, .int 4, .int 4, .int 0, .int 0, .int 0, .int 0, .int 0, .ref (d4 1), .ref (d4 2), .ref (d4 3), .ref (d4 4), .ref (d4 5)])), ((d4 1), .inl (k 0, 10, .inl (fun _ => 0))), ((d4 2), .inl (k 0, 10, .inl (fun _ => 0))), ((d4 3), .inl (k 0, 60, .inl (fun _ => 0))), ((d4 4), .inl (k 0, 10, .inl (fun _ => 0))), ((d4 5), .inl (k 0, 60, .inl (fun _ => 0))), ((n 0), .inr (5, [.int 0, .int 0, .int 3, .int 8, .int 4, .int 4, .int 0, .int 0, .int 0, .int 0, .int 0, .ref (n 1), .ref (n 2), .ref (n 3), .ref (n 4), .ref (n 5)])), ((n 1), .inl (k 0, 10, .inl (fun _ => 0))), ((n 2), .inl (k 0, 10, .inl (fun _ => 0))), ((n 3), .inl (k 0, 60, .inl (fun _ => 0)))]) (wr := [((t 0), .inr (6, [.ref (t 1), .int 0, .ref (n 0), .ref (v 0), .ref (t 2), .ref (t 3), .ref (t 4), .ref (t 5), .ref (d 0), .ref (t 6), .ref (t 7)]))]) ⟨hx, hb, hml, hown, hts⟩ (c_D_find4 l D k _ _ _ _ _ _ y0 y1 y2 y3 y4 _ _) (gV mw_777 mw_778 mw_779 mw_33 mw_780) hd_yX0_find rfl rfl ⟨Nat.le_of_ble_eq_true rfl, Nat.le_of_ble_eq_true rfl⟩ hK hP hD hS hA [1, 2, 3, 4, 5, 6, 7, 8, 9, 10, 11, 12, 13, 14, 15, 16, 17, 18, 19, 20, 21, 22, 23, 24, 25, 26, 27, 28, 29, 30, 31, 32, 33, 34, 35, 36, 37, 38] [0] rfl rfl (by decide) (by decide) (by decide) rfl rfl rfl rfl hl.1 rfl (Nat.le_of_ble_eq_true rfl) dX7_dry_55 ⟨Nat.le_of_ble_eq_true rfl, Nat.le_of_ble_eq_true rfl⟩ (fun u_15 H locs hw hP hD hS => ?_)
          have hP : va_P D vwCl [((t 0), .inr (6, [.ref (t 1), .int 0, .ref (n 0), .ref (v 0), .ref (t 2), .ref (t 3), .ref (t 4), .ref (t 5), .ref (d 0), .ref (t 6), .ref (t 7)])), ((d 0), .inr (0, [.int 0, .ref (d 1), .ref (d 2), .ref (d 3), .int 4])), ((d 1), .inl (k 0, 4, .inl (fun _ => 0))), ((d 2), .inl (k 0, 4, .inl (fun _ => 0))), ((d 3), .inl (k 4, 5, .inr (.inr (.inr (.inr (va_rs [(d0 0), (d1 0), (d2 0), (d3 0), (d4 0)]))))))] H := hP
          have hD : va_D A [((t 0), .inr (6, [.ref (t 1), .int 0, .ref (n 0), .ref (v 0), .ref (t 2), .ref (t 3), .ref (t 4), .ref (t 5), .ref (d 0), .ref (t 6), .ref (t 7)])), ((d 0), .inr (0, [.int 0, .ref (d 1), .ref (d 2), .ref (d 3), .int 4])), ((d 1), .inl (k 0, 4, .inl (fun _ => 0))), ((d 2), .inl (k 0, 4, .inl (fun _ => 0))), ((d 3), .inl (k 4, 5, .inr (.inr (.inr (.inr (va_rs [(d0 0), (d1 0), (d2 0), (d3 0), (d4 0)]))))))] := hD
          refine lv_iload_n hx hb dX7_dry_58 rfl (lv_at hl 2 rfl) ?_
          refine lv_ni (v := 0) (qc_1) ?_
          refine lv_if_ne (tgt := 70) hx hb dX7_dry_59 (by decide) (fun c9 => absurd c9 (by decide)) (fun _ => ?_)
          refine lv_aload_n hx hb dX7_dry_62 rfl (lv_at hl 0 rfl) ?_
          refine va_get (D := D) (ci := 6) (v := .ref (d 0)) (C := RX7) (T := TX7) (N := 11) hx hb hts inlX7 hown hK hP 0 rfl rfl 8 (by decide) (hts _ mw_34) (fun _ h9 => h9) rfl dX7_dry_63 ?_
          refine va_get (D := D) (ci := 0) (v := .int 0) (C := RX0) (T := TX0) (N := 5) hx hb hts inlX0 hown hK hP 1 rfl rfl 0 (by decide) (hts _ mw_775) (fun _ h9 => h9) rfl dX7_dry_66 ?_
          have hP9 := hP.sub (ws' := []) [] rfl
          have hD9 := hD.sub (ws' := []) [] (by decide) rfl
          exact W.iret (v := 0) hx hb hr (fun t ht hW => ⟨⟨0, (), rfl, (by (repeat' split) <;> first | rfl | (exfalso; omega)), by rw [ht]; exact hP9, hD9⟩, hS.F ht⟩) hS.2.2 dX7_dry_69
      · have c_3 : 4 < a.toInt := ti_nle c_3
        refine lv_bipush (v := (-3)) hx hb dX7_dry_29 (by decide) ?_
        have hP9 := hP.sub (ws' := []) [] rfl
        have hD9 := hD.sub (ws' := []) [] (by decide) rfl
        exact W.iret (v := (-3)) hx hb hr (fun t ht hW => ⟨⟨(-3), (), rfl, (by (repeat' split) <;> first | rfl | (exfalso; omega)), by rw [ht]; exact hP9, hD9⟩, hS.F ht⟩) hS.2.2 dX7_dry_31
  · have c_1 : x.toInt ≠ 0 := ti_ne c_1
    refine lv_iload_n hx hb dX7_dry_4 rfl (lv_at hl 2 rfl) ?_
    refine lv_bipush (v := 10) hx hb dX7_dry_5 (by decide) ?_
    refine lv_icmp_lt (tgt := 16) hx hb dX7_dry_7 (by decide) (fun c_16 => ?_) (fun c_16 => ?_)
    · have c_16 : x.toInt < 10 := ti_lt c_16
      refine lv_bipush (v := (-2)) hx hb dX7_dry_16 (by decide) ?_
      have hP9 := hP.sub (ws' := []) [] rfl
      have hD9 := hD.sub (ws' := []) [] (by decide) rfl
      exact W.iret (v := (-2)) hx hb hr (fun t ht hW => ⟨⟨(-2), (), rfl, (by (repeat' split) <;> first | rfl | (exfalso; omega)), by rw [ht]; exact hP9, hD9⟩, hS.F ht⟩) hS.2.2 dX7_dry_18
    · have c_16 : 10 ≤ x.toInt := ti_nlt c_16
      refine lv_iload_n hx hb dX7_dry_10 rfl (lv_at hl 2 rfl) ?_
      refine lv_bipush (v := 14) hx hb dX7_dry_11 (by decide) ?_
      refine lv_icmp_lt (tgt := 19) hx hb dX7_dry_13 (by decide) (fun c_17 => ?_) (fun c_17 => ?_)
      · have c_17 : x.toInt < 14 := ti_lt c_17
        refine lv_iload_n hx hb dX7_dry_19 rfl (lv_at hl 1 rfl) ?_
        refine lv_iconst (v := 1) hx hb dX7_dry_20 (by decide) ?_
        refine lv_icmp_lt (tgt := 29) hx hb dX7_dry_21 (by decide) (fun c_18 => ?_) (fun c_18 => ?_)
        · have c_18 : a.toInt < 1 := ti_lt c_18
          refine lv_bipush (v := (-3)) hx hb dX7_dry_29 (by decide) ?_
          have hP9 := hP.sub (ws' := []) [] rfl
          have hD9 := hD.sub (ws' := []) [] (by decide) rfl
          exact W.iret (v := (-3)) hx hb hr (fun t ht hW => ⟨⟨(-3), (), rfl, (by (repeat' split) <;> first | rfl | (exfalso; omega)), by rw [ht]; exact hP9, hD9⟩, hS.F ht⟩) hS.2.2 dX7_dry_31
        · have c_18 : 1 ≤ a.toInt := ti_nlt c_18
          refine lv_iload_n hx hb dX7_dry_24 rfl (lv_at hl 1 rfl) ?_
          refine lv_iconst (v := 4) hx hb dX7_dry_25 (by decide) ?_
          refine lv_icmp_le (tgt := 32) hx hb dX7_dry_26 (by decide) (fun c_19 => ?_) (fun c_19 => ?_)
          · have c_19 : a.toInt ≤ 4 := ti_le c_19
            refine lv_aload_n hx hb dX7_dry_32 rfl (lv_at hl 0 rfl) ?_
            refine va_get (D := D) (ci := 6) (v := .ref (n 0)) (C := RX7) (T := TX7) (N := 11) hx hb hts inlX7 hown hK hP 0 rfl rfl 2 (by decide) (hts _ mw_20) (fun _ h9 => h9) rfl dX7_dry_33 ?_
            refine va_get (D := D) (ci := 5) (v := .int 0) (C := RX6) (T := TX6) (N := 16) hx hb hts inlX6 hown hK hP 35 rfl rfl 0 (by decide) (hts _ mw_622) (fun _ h9 => h9) rfl dX7_dry_36 ?_
            refine lv_iconst (v := 4) hx hb dX7_dry_39 (by decide) ?_
            refine lv_icmp_le (tgt := 46) hx hb dX7_dry_40 (by decide) (fun _ => ?_) (fun c9 => absurd c9 (by decide))
            rcases (show a.toInt = 1 ∨ a.toInt = 2 ∨ a.toInt = 3 ∨ a.toInt = 4 from by omega) with c_20 | c_21 | c_22 | c_23
            · have qc_20 : a = 1 := ti_of (show a.toInt = 1 from c_20)
              refine lv_aload_n hx hb dX7_dry_46 rfl (lv_at hl 0 rfl) ?_
              refine va_get (D := D) (ci := 6) (v := .ref (d 0)) (C := RX7) (T := TX7) (N := 11) hx hb hts inlX7 hown hK hP 0 rfl rfl 8 (by decide) (hts _ mw_34) (fun _ h9 => h9) rfl dX7_dry_47 ?_
              refine lv_aload_n hx hb dX7_dry_50 rfl (lv_at hl 0 rfl) ?_
              refine va_get (D := D) (ci := 6) (v := .ref (n 0)) (C := RX7) (T := TX7) (N := 11) hx hb hts inlX7 hown hK hP 0 rfl rfl 2 (by decide) (hts _ mw_20) (fun _ h9 => h9) rfl dX7_dry_51 ?_
              refine lv_iload_n hx hb dX7_dry_54 rfl (lv_at hl 1 rfl) ?_
              refine lv_ni (v := 1) (qc_20) ?_
              refine kV_uv (q0 := 0) (As := [.ref (n 0), .int 1]) (rest := []) (wc := [((d 0), .inr (0, [.int 0, .ref (d 1), .ref (d 2), .ref (d 3), .int 0])), ((d 1), .inl (k 0, 4, .inl (fun _ => 0))), ((d 2), .inl (k 0, 4, .inl (fun _ => 0))), ((d 3), .inl (k 4, 5, .inr (.inr (.inr (.inr (va_rs [(d0 0), (d1 0), (d2 0), (d3 0), (d4 0)])))))), ((d0 0), .inr (5, [.int 0, .int y0, .int 3, .int 8, .int 4, .int 4, .int 0, .int 0, .int 0, .int 0, .int 0, .ref (d0 1), .ref (d0 2), .ref (d0 3), .ref (d0 4), .ref (d0 5)])), ((d0 1), .inl (k 0, 10, .inl (fun _ => 0))), ((d0 2), .inl (k 0, 10, .inl (fun _ => 0))), ((d0 3), .inl (k 0, 60, .inl (fun _ => 0))), ((d0 4), .inl (k 0, 10, .inl (fun _ => 0))), ((d0 5), .inl (k 0, 60, .inl (fun _ => 0))), ((d1 0), .inr (5, [.int 0, .int y1, .int 3, .int 8, .int 4, .int 4, .int 0, .int 0, .int 0, .int 0, .int 0, .ref (d1 1), .ref (d1 2), .ref (d1 3), .ref (d1 4), .ref (d1 5)])), ((d1 1), .inl (k 0, 10, .inl (fun _ => 0))), ((d1 2), .inl (k 0, 10, .inl (fun _ => 0))), ((d1 3), .inl (k 0, 60, .inl (fun _ => 0))), ((d1 4), .inl (k 0, 10, .inl (fun _ => 0))), ((d1 5), .inl (k 0, 60, .inl (fun _ => 0))), ((d2 0), .inr (5, [.int 0, .int y2, .int 3, .int 8, .int 4, .int 4, .int 0, .int 0, .int 0, .int 0, .int 0, .ref (d2 1), .ref (d2 2), .ref (d2 3), .ref (d2 4), .ref (d2 5)])), ((d2 1), .inl (k 0, 10, .inl (fun _ => 0))), ((d2 2), .inl (k 0, 10, .inl (fun _ => 0))), ((d2 3), .inl (k 0, 60, .inl (fun _ => 0))), ((d2 4), .inl (k 0, 10, .inl (fun _ => 0))), ((d2 5), .inl (k 0, 60, .inl (fun _ => 0))), ((d3 0), .inr (5, [.int 0, .int y3, .int 3, .int 8, .int 4, .int 4, .int 0, .int 0, .int 0, .int 0, .int 0, .ref (d3 1), .ref (d3 2), .ref (d3 3), .ref (d3 4), .ref (d3 5)])), ((d3 1), .inl (k 0, 10, .inl (fun _ => 0))), ((d3 2), .inl (k 0, 10, .inl (fun _ => 0))), ((d3 3), .inl (k 0, 60, .inl (fun _ => 0))), ((d3 4), .inl (k 0, 10, .inl (fun _ => 0))), ((d3 5), .inl (k 0, 60, .inl (fun _ => 0))), ((d4 0), .inr (5, [.int 0, .int y4, .int 3, .int 8, .int 4, .int 4, .int 0, .int 0, .int 0, .int 0, .int 0, .ref (d4 1), .ref (d4 2), .ref (d4 3), .ref (d4 4), .ref (d4 5)])), ((d4 1), .inl (k 0, 10, .inl (fun _ => 0))), ((d4 2), .inl (k 0, 10, .inl (fun _ => 0))), ((d4 3), .inl (k 0, 60, .inl (fun _ => 0))), ((d4 4), .inl (k 0, 10, .inl (fun _ => 0))), ((d4 5), .inl (k 0, 60, .inl (fun _ => 0))), ((n 0), .inr (5, [.int 0, .int 0, .int 3, .int 8, .int 4, .int 4, .int 0, .int 0, .int 0, .int 0, .int 0, .ref (n 1), .ref (n 2), .ref (n 3), .ref (n 4), .ref (n 5)])), ((n 1), .inl (k 0, 10, .inl (fun _ => 0))), ((n 2), .inl (k 0, 10, .inl (fun _ => 0))), ((n 3), .inl (k 0, 60, .inl (fun _ => 0)))]) (wr := [((t 0), .inr (6, [.ref (t 1), .int 0, .ref (n 0), .ref (v 0), .ref (t 2), .ref (t 3), .ref (t 4), .ref (t 5), .ref (d 0), .ref (t 6), .ref (t 7)]))]) ⟨hx, hb, hml, hown, hts⟩ (c_D_find1 l D k _ _ _ _ _ _ y0 y1 y2 y3 y4 _ _) (gV mw_777 mw_778 mw_779 mw_33 mw_780) hd_yX0_find rfl rfl ⟨Nat.le_of_ble_eq_true rfl, Nat.le_of_ble_eq_true rfl⟩ hK hP hD hS hA [1, 2, 3, 4, 5, 6, 7, 8, 9, 10, 11, 12, 13, 14, 15, 16, 17, 18, 19, 20, 21, 22, 23, 24, 25, 26, 27, 28, 29, 30, 31, 32, 33, 34, 35, 36, 37, 38] [0] rfl rfl (by decide) (by decide) (by decide) rfl rfl rfl rfl hl.1 rfl (Nat.le_of_ble_eq_true rfl) dX7_dry_55 ⟨Nat.le_of_ble_eq_true rfl, Nat.le_of_ble_eq_true rfl⟩ (fun u_25 H locs hw hP hD hS => ?_)
              have hP : va_P D vwCl [((t 0), .inr (6, [.ref (t 1), .int 0, .ref (n 0), .ref (v 0), .ref (t 2), .ref (t 3), .ref (t 4), .ref (t 5), .ref (d 0), .ref (t 6), .ref (t 7)])), ((d 0), .inr (0, [.int 0, .ref (d 1), .ref (d 2), .ref (d 3), .int 1])), ((d 1), .inl (k 0, 4, .inl (fun _ => 0))), ((d 2), .inl (k 0, 4, .inl (fun _ => 0))), ((d 3), .inl (k 4, 5, .inr (.inr (.inr (.inr (va_rs [(d0 0), (d1 0), (d2 0), (d3 0), (d4 0)]))))))] H := hP
              have hD : va_D A [((t 0), .inr (6, [.ref (t 1), .int 0, .ref (n 0), .ref (v 0), .ref (t 2), .ref (t 3), .ref (t 4), .ref (t 5), .ref (d 0), .ref (t 6), .ref (t 7)])), ((d 0), .inr (0, [.int 0, .ref (d 1), .ref (d 2), .ref (d 3), .int 1])), ((d 1), .inl (k 0, 4, .inl (fun _ => 0))), ((d 2), .inl (k 0, 4, .inl (fun _ => 0))), ((d 3), .inl (k 4, 5, .inr (.inr (.inr (.inr (va_rs [(d0 0), (d1 0), (d2 0), (d3 0), (d4 0)]))))))] := hD
              refine lv_iload_n hx hb dX7_dry_58 rfl (lv_at hl 2 rfl) ?_
              refine lv_if_ne (tgt := 70) hx hb dX7_dry_59 (by decide) (fun c_26 => ?_) (fun c_26 => by have q := ti_eq c_26; have q : x.toInt = 0 := q; exfalso; omega)
              have c_26 : x.toInt ≠ 0 := ti_ne c_26
              refine lv_iload_n hx hb dX7_dry_70 rfl (lv_at hl 2 rfl) ?_
              refine lv_bipush (v := 10) hx hb dX7_dry_71 (by decide) ?_
              refine lv_isub hx hb dX7_dry_73 ?_
              refine lv_topi (fun z_27 ez_27 => ?_)
              have tz_27 : z_27.toInt = x.toInt - 10 := by rw [ez_27]; exact ti_subc (by decide) (by omega) (by omega)
              refine lv_istore_n (lv' := [(3, .int z_27), (0, .ref (t 0)), (1, .int a), (2, .int x)]) hx hb dX7_dry_74 rfl hl (by decide) rfl (fun ls hl => ?_)
              refine lv_iload_n hx hb dX7_dry_75 rfl (lv_at hl 0 rfl) ?_
              refine lv_iload_n hx hb dX7_dry_76 rfl (lv_at hl 2 rfl) ?_
              refine lv_ni (v := 1) (qc_20) ?_
              refine lv_icmp_ge (tgt := 92) hx hb dX7_dry_77 (by decide) (fun c_28 => ?_) (fun c_28 => ?_)
              · have c_28 : 1 ≤ z_27.toInt := ti_le c_28
                refine lv_iconst (v := (-1)) hx hb dX7_dry_92 (by decide) ?_
                have hP9 := hP.sub (ws' := []) [] rfl
                have hD9 := hD.sub (ws' := []) [] (by decide) rfl
                exact W.iret (v := (-1)) hx hb hr (fun t ht hW => ⟨⟨(-1), (), rfl, (by (repeat' split) <;> first | rfl | (exfalso; omega)), by rw [ht]; exact hP9, hD9⟩, hS.F ht⟩) hS.2.2 dX7_dry_93
              · have c_28 : z_27.toInt < 1 := ti_nle c_28
                have qc_28 : z_27 = 0 := ti_of (show z_27.toInt = 0 from by omega)
                refine lv_aload_n hx hb dX7_dry_80 rfl (lv_at hl 1 rfl) ?_
                refine va_get (D := D) (ci := 6) (v := .ref (d 0)) (C := RX7) (T := TX7) (N := 11) hx hb hts inlX7 hown hK hP 0 rfl rfl 8 (by decide) (hts _ mw_34) (fun _ h9 => h9) rfl dX7_dry_81 ?_
                refine va_get (D := D) (ci := 0) (v := .ref (d 1)) (C := RX0) (T := TX0) (N := 5) hx hb hts inlX0 hown hK hP 1 rfl rfl 1 (by decide) (hts _ mw_776) (fun _ h9 => h9) rfl dX7_dry_84 ?_
                refine lv_iload_n hx hb dX7_dry_87 rfl (lv_at hl 0 rfl) ?_
                refine lv_ni (v := 0) (qc_28) ?_
                refine va_iald hx hb hK hP 2 0 rfl rfl (vp_in_c (by decide)) dX7_dry_88 ?_
                refine lv_ni (v := 0) (rfl) ?_
                refine lv_goto (tgt := 93) hx hb dX7_dry_89 (by decide) ?_
                have hP9 := hP.sub (ws' := []) [] rfl
                have hD9 := hD.sub (ws' := []) [] (by decide) rfl
                exact W.iret (v := 0) hx hb hr (fun t ht hW => ⟨⟨0, (), rfl, (by (repeat' split) <;> first | rfl | (exfalso; omega)), by rw [ht]; exact hP9, hD9⟩, hS.F ht⟩) hS.2.2 dX7_dry_93
            · have qc_21 : a = 2 := ti_of (show a.toInt = 2 from c_21)
              refine lv_aload_n hx hb dX7_dry_46 rfl (lv_at hl 0 rfl) ?_
              refine va_get (D := D) (ci := 6) (v := .ref (d 0)) (C := RX7) (T := TX7) (N := 11) hx hb hts inlX7 hown hK hP 0 rfl rfl 8 (by decide) (hts _ mw_34) (fun _ h9 => h9) rfl dX7_dry_47 ?_
              refine lv_aload_n hx hb dX7_dry_50 rfl (lv_at hl 0 rfl) ?_
              refine va_get (D := D) (ci := 6) (v := .ref (n 0)) (C := RX7) (T := TX7) (N := 11) hx hb hts inlX7 hown hK hP 0 rfl rfl 2 (by decide) (hts _ mw_20) (fun _ h9 => h9) rfl dX7_dry_51 ?_
              refine lv_iload_n hx hb dX7_dry_54 rfl (lv_at hl 1 rfl) ?_
              refine lv_ni (v := 2) (qc_21) ?_
              refine kV_uv (q0 := 0) (As := [.ref (n 0), .int 2]) (rest := []) (wc := [((d 0), .inr (0, [.int 0, .ref (d 1), .ref (d 2), .ref (d 3), .int 0])), ((d 1), .inl (k 0, 4, .inl (fun _ => 0))), ((d 2), .inl (k 0, 4, .inl (fun _ => 0))), ((d 3), .inl (k 4, 5, .inr (.inr (.inr (.inr (va_rs [(d0 0), (d1 0), (d2 0), (d3 0), (d4 0)])))))), ((d0 0), .inr (5, [.int 0, .int y0, .int 3, .int 8, .int 4, .int 4, .int 0, .int 0, .int 0, .int 0, .int 0, .ref (d0 1), .ref (d0 2), .ref (d0 3), .ref (d0 4), .ref (d0 5)])), ((d0 1), .inl (k 0, 10, .inl (fun _ => 0))), ((d0 2), .inl (k 0, 10, .inl (fun _ => 0))), ((d0 3), .inl (k 0, 60, .inl (fun _ => 0))), ((d0 4), .inl (k 0, 10, .inl (fun _ => 0))), ((d0 5), .inl (k 0, 60, .inl (fun _ => 0))), ((d1 0), .inr (5, [.int 0, .int y1, .int 3, .int 8, .int 4, .int 4, .int 0, .int 0, .int 0, .int 0, .int 0, .ref (d1 1), .ref (d1 2), .ref (d1 3), .ref (d1 4), .ref (d1 5)])), ((d1 1), .inl (k 0, 10, .inl (fun _ => 0))), ((d1 2), .inl (k 0, 10, .inl (fun _ => 0))), ((d1 3), .inl (k 0, 60, .inl (fun _ => 0))), ((d1 4), .inl (k 0, 10, .inl (fun _ => 0))), ((d1 5), .inl (k 0, 60, .inl (fun _ => 0))), ((d2 0), .inr (5, [.int 0, .int y2, .int 3, .int 8, .int 4, .int 4, .int 0, .int 0, .int 0, .int 0, .int 0, .ref (d2 1), .ref (d2 2), .ref (d2 3), .ref (d2 4), .ref (d2 5)])), ((d2 1), .inl (k 0, 10, .inl (fun _ => 0))), ((d2 2), .inl (k 0, 10, .inl (fun _ => 0))), ((d2 3), .inl (k 0, 60, .inl (fun _ => 0))), ((d2 4), .inl (k 0, 10, .inl (fun _ => 0))), ((d2 5), .inl (k 0, 60, .inl (fun _ => 0))), ((d3 0), .inr (5, [.int 0, .int y3, .int 3, .int 8, .int 4, .int 4, .int 0, .int 0, .int 0, .int 0, .int 0, .ref (d3 1), .ref (d3 2), .ref (d3 3), .ref (d3 4), .ref (d3 5)])), ((d3 1), .inl (k 0, 10, .inl (fun _ => 0))), ((d3 2), .inl (k 0, 10, .inl (fun _ => 0))), ((d3 3), .inl (k 0, 60, .inl (fun _ => 0))), ((d3 4), .inl (k 0, 10, .inl (fun _ => 0))), ((d3 5), .inl (k 0, 60, .inl (fun _ => 0))), ((d4 0), .inr (5, [.int 0, .int y4, .int 3, .int 8, .int 4, .int 4, .int 0, .int 0, .int 0, .int 0, .int 0, .ref (d4 1), .ref (d4 2), .ref (d4 3), .ref (d4 4), .ref (d4 5)])), ((d4 1), .inl (k 0, 10, .inl (fun _ => 0))), ((d4 2), .inl (k 0, 10, .inl (fun _ => 0))), ((d4 3), .inl (k 0, 60, .inl (fun _ => 0))), ((d4 4), .inl (k 0, 10, .inl (fun _ => 0))), ((d4 5), .inl (k 0, 60, .inl (fun _ => 0))), ((n 0), .inr (5, [.int 0, .int 0, .int 3, .int 8, .int 4, .int 4, .int 0, .int 0, .int 0, .int 0, .int 0, .ref (n 1), .ref (n 2), .ref (n 3), .ref (n 4), .ref (n 5)])), ((n 1), .inl (k 0, 10, .inl (fun _ => 0))), ((n 2), .inl (k 0, 10, .inl (fun _ => 0))), ((n 3), .inl (k 0, 60, .inl (fun _ => 0)))]) (wr := [((t 0), .inr (6, [.ref (t 1), .int 0, .ref (n 0), .ref (v 0), .ref (t 2), .ref (t 3), .ref (t 4), .ref (t 5), .ref (d 0), .ref (t 6), .ref (t 7)]))]) ⟨hx, hb, hml, hown, hts⟩ (c_D_find2 l D k _ _ _ _ _ _ y0 y1 y2 y3 y4 _ _) (gV mw_777 mw_778 mw_779 mw_33 mw_780) hd_yX0_find rfl rfl ⟨Nat.le_of_ble_eq_true rfl, Nat.le_of_ble_eq_true rfl⟩ hK hP hD hS hA [1, 2, 3, 4, 5, 6, 7, 8, 9, 10, 11, 12, 13, 14, 15, 16, 17, 18, 19, 20, 21, 22, 23, 24, 25, 26, 27, 28, 29, 30, 31, 32, 33, 34, 35, 36, 37, 38] [0] rfl rfl (by decide) (by decide) (by decide) rfl rfl rfl rfl hl.1 rfl (Nat.le_of_ble_eq_true rfl) dX7_dry_55 ⟨Nat.le_of_ble_eq_true rfl, Nat.le_of_ble_eq_true rfl⟩ (fun u_30 H locs hw hP hD hS => ?_)
              have hP : va_P D vwCl [((t 0), .inr (6, [.ref (t 1), .int 0, .ref (n 0), .ref (v 0), .ref (t 2), .ref (t 3), .ref (t 4), .ref (t 5), .ref (d 0), .ref (t 6), .ref (t 7)])), ((d 0), .inr (0, [.int 0, .ref (d 1), .ref (d 2), .ref (d 3), .int 2])), ((d 1), .inl (k 0, 4, .inl (fun _ => 0))), ((d 2), .inl (k 0, 4, .inl (fun _ => 0))), ((d 3), .inl (k 4, 5, .inr (.inr (.inr (.inr (va_rs [(d0 0), (d1 0), (d2 0), (d3 0), (d4 0)]))))))] H := hP
              have hD : va_D A [((t 0), .inr (6, [.ref (t 1), .int 0, .ref (n 0), .ref (v 0), .ref (t 2), .ref (t 3), .ref (t 4), .ref (t 5), .ref (d 0), .ref (t 6), .ref (t 7)])), ((d 0), .inr (0, [.int 0, .ref (d 1), .ref (d 2), .ref (d 3), .int 2])), ((d 1), .inl (k 0, 4, .inl (fun _ => 0))), ((d 2), .inl (k 0, 4, .inl (fun _ => 0))), ((d 3), .inl (k 4, 5, .inr (.inr (.inr (.inr (va_rs [(d0 0), (d1 0), (d2 0), (d3 0), (d4 0)]))))))] := hD
              refine lv_iload_n hx hb dX7_dry_58 rfl (lv_at hl 2 rfl) ?_
              refine lv_if_ne (tgt := 70) hx hb dX7_dry_59 (by decide) (fun c_31 => ?_) (fun c_31 => by have q := ti_eq c_31; have q : x.toInt = 0 := q; exfalso; omega)
              have c_31 : x.toInt ≠ 0 := ti_ne c_31
              refine lv_iload_n hx hb dX7_dry_70 rfl (lv_at hl 2 rfl) ?_
              refine lv_bipush (v := 10) hx hb dX7_dry_71 (by decide) ?_
              refine lv_isub hx hb dX7_dry_73 ?_
              refine lv_topi (fun z_32 ez_32 => ?_)
              have tz_32 : z_32.toInt = x.toInt - 10 := by rw [ez_32]; exact ti_subc (by decide) (by omega) (by omega)
              refine lv_istore_n (lv' := [(3, .int z_32), (0, .ref (t 0)), (1, .int a), (2, .int x)]) hx hb dX7_dry_74 rfl hl (by decide) rfl (fun ls hl => ?_)
              refine lv_iload_n hx hb dX7_dry_75 rfl (lv_at hl 0 rfl) ?_
              refine lv_iload_n hx hb dX7_dry_76 rfl (lv_at hl 2 rfl) ?_
              refine lv_ni (v := 2) (qc_21) ?_
              refine lv_icmp_ge (tgt := 92) hx hb dX7_dry_77 (by decide) (fun c_33 => ?_) (fun c_33 => ?_)
              · have c_33 : 2 ≤ z_32.toInt := ti_le c_33
                refine lv_iconst (v := (-1)) hx hb dX7_dry_92 (by decide) ?_
                have hP9 := hP.sub (ws' := []) [] rfl
                have hD9 := hD.sub (ws' := []) [] (by decide) rfl
                exact W.iret (v := (-1)) hx hb hr (fun t ht hW => ⟨⟨(-1), (), rfl, (by (repeat' split) <;> first | rfl | (exfalso; omega)), by rw [ht]; exact hP9, hD9⟩, hS.F ht⟩) hS.2.2 dX7_dry_93
              · have c_33 : z_32.toInt < 2 := ti_nle c_33
                refine lv_aload_n hx hb dX7_dry_80 rfl (lv_at hl 1 rfl) ?_
                refine va_get (D := D) (ci := 6) (v := .ref (d 0)) (C := RX7) (T := TX7) (N := 11) hx hb hts inlX7 hown hK hP 0 rfl rfl 8 (by decide) (hts _ mw_34) (fun _ h9 => h9) rfl dX7_dry_81 ?_
                refine va_get (D := D) (ci := 0) (v := .ref (d 1)) (C := RX0) (T := TX0) (N := 5) hx hb hts inlX0 hown hK hP 1 rfl rfl 1 (by decide) (hts _ mw_776) (fun _ h9 => h9) rfl dX7_dry_84 ?_
                refine lv_iload_n hx hb dX7_dry_87 rfl (lv_at hl 0 rfl) ?_
                refine va_iald hx hb hK hP 2 0 rfl rfl (vp_in_o (by omega) (by omega)) dX7_dry_88 ?_
                refine lv_ni (v := 0) (rfl) ?_
                refine lv_goto (tgt := 93) hx hb dX7_dry_89 (by decide) ?_
                have hP9 := hP.sub (ws' := []) [] rfl
                have hD9 := hD.sub (ws' := []) [] (by decide) rfl
                exact W.iret (v := 0) hx hb hr (fun t ht hW => ⟨⟨0, (), rfl, (by (repeat' split) <;> first | rfl | (exfalso; omega)), by rw [ht]; exact hP9, hD9⟩, hS.F ht⟩) hS.2.2 dX7_dry_93
            · have qc_22 : a = 3 := ti_of (show a.toInt = 3 from c_22)
              refine lv_aload_n hx hb dX7_dry_46 rfl (lv_at hl 0 rfl) ?_
              refine va_get (D := D) (ci := 6) (v := .ref (d 0)) (C := RX7) (T := TX7) (N := 11) hx hb hts inlX7 hown hK hP 0 rfl rfl 8 (by decide) (hts _ mw_34) (fun _ h9 => h9) rfl dX7_dry_47 ?_
              refine lv_aload_n hx hb dX7_dry_50 rfl (lv_at hl 0 rfl) ?_
              refine va_get (D := D) (ci := 6) (v := .ref (n 0)) (C := RX7) (T := TX7) (N := 11) hx hb hts inlX7 hown hK hP 0 rfl rfl 2 (by decide) (hts _ mw_20) (fun _ h9 => h9) rfl dX7_dry_51 ?_
              refine lv_iload_n hx hb dX7_dry_54 rfl (lv_at hl 1 rfl) ?_
              refine lv_ni (v := 3) (qc_22) ?_
              refine kV_uv (q0 := 0) (As := [.ref (n 0), .int 3]) (rest := []) (wc := [((d 0), .inr (0, [.int 0, .ref (d 1), .ref (d 2), .ref (d 3), .int 0])), ((d 1), .inl (k 0, 4, .inl (fun _ => 0))), ((d 2), .inl (k 0, 4, .inl (fun _ => 0))), ((d 3), .inl (k 4, 5, .inr (.inr (.inr (.inr (va_rs [(d0 0), (d1 0), (d2 0), (d3 0), (d4 0)])))))), ((d0 0), .inr (5, [.int 0, .int y0, .int 3, .int 8, .int 4, .int 4, .int 0, .int 0, .int 0, .int 0, .int 0, .ref (d0 1), .ref (d0 2), .ref (d0 3), .ref (d0 4), .ref (d0 5)])), ((d0 1), .inl (k 0, 10, .inl (fun _ => 0))), ((d0 2), .inl (k 0, 10, .inl (fun _ => 0))), ((d0 3), .inl (k 0, 60, .inl (fun _ => 0))), ((d0 4), .inl (k 0, 10, .inl (fun _ => 0))), ((d0 5), .inl (k 0, 60, .inl (fun _ => 0))), ((d1 0), .inr (5, [.int 0, .int y1, .int 3, .int 8, .int 4, .int 4, .int 0, .int 0, .int 0, .int 0, .int 0, .ref (d1 1), .ref (d1 2), .ref (d1 3), .ref (d1 4), .ref (d1 5)])), ((d1 1), .inl (k 0, 10, .inl (fun _ => 0))), ((d1 2), .inl (k 0, 10, .inl (fun _ => 0))), ((d1 3), .inl (k 0, 60, .inl (fun _ => 0))), ((d1 4), .inl (k 0, 10, .inl (fun _ => 0))), ((d1 5), .inl (k 0, 60, .inl (fun _ => 0))), ((d2 0), .inr (5, [.int 0, .int y2, .int 3, .int 8, .int 4, .int 4, .int 0, .int 0, .int 0, .int 0, .int 0, .ref (d2 1), .ref (d2 2), .ref (d2 3), .ref (d2 4), .ref (d2 5)])), ((d2 1), .inl (k 0, 10, .inl (fun _ => 0))), ((d2 2), .inl (k 0, 10, .inl (fun _ => 0))), ((d2 3), .inl (k 0, 60, .inl (fun _ => 0))), ((d2 4), .inl (k 0, 10, .inl (fun _ => 0))), ((d2 5), .inl (k 0, 60, .inl (fun _ => 0))), ((d3 0), .inr (5, [.int 0, .int y3, .int 3, .int 8, .int 4, .int 4, .int 0, .int 0, .int 0, .int 0, .int 0, .ref (d3 1), .ref (d3 2), .ref (d3 3), .ref (d3 4), .ref (d3 5)])), ((d3 1), .inl (k 0, 10, .inl (fun _ => 0))), ((d3 2), .inl (k 0, 10, .inl (fun _ => 0))), ((d3 3), .inl (k 0, 60, .inl (fun _ => 0))), ((d3 4), .inl (k 0, 10, .inl (fun _ => 0))), ((d3 5), .inl (k 0, 60, .inl (fun _ => 0))), ((d4 0), .inr (5, [.int 0, .int y4, .int 3, .int 8, .int 4, .int 4, .int 0, .int 0, .int 0, .int 0, .int 0, .ref (d4 1), .ref (d4 2), .ref (d4 3), .ref (d4 4), .ref (d4 5)])), ((d4 1), .inl (k 0, 10, .inl (fun _ => 0))), ((d4 2), .inl (k 0, 10, .inl (fun _ => 0))), ((d4 3), .inl (k 0, 60, .inl (fun _ => 0))), ((d4 4), .inl (k 0, 10, .inl (fun _ => 0))), ((d4 5), .inl (k 0, 60, .inl (fun _ => 0))), ((n 0), .inr (5, [.int 0, .int 0, .int 3, .int 8, .int 4, .int 4, .int 0, .int 0, .int 0, .int 0, .int 0, .ref (n 1), .ref (n 2), .ref (n 3), .ref (n 4), .ref (n 5)])), ((n 1), .inl (k 0, 10, .inl (fun _ => 0))), ((n 2), .inl (k 0, 10, .inl (fun _ => 0))), ((n 3), .inl (k 0, 60, .inl (fun _ => 0)))]) (wr := [((t 0), .inr (6, [.ref (t 1), .int 0, .ref (n 0), .ref (v 0), .ref (t 2), .ref (t 3), .ref (t 4), .ref (t 5), .ref (d 0), .ref (t 6), .ref (t 7)]))]) ⟨hx, hb, hml, hown, hts⟩ (c_D_find3 l D k _ _ _ _ _ _ y0 y1 y2 y3 y4 _ _) (gV mw_777 mw_778 mw_779 mw_33 mw_780) hd_yX0_find rfl rfl ⟨Nat.le_of_ble_eq_true rfl, Nat.le_of_ble_eq_true rfl⟩ hK hP hD hS hA [1, 2, 3, 4, 5, 6, 7, 8, 9, 10, 11, 12, 13, 14, 15, 16, 17, 18, 19, 20, 21, 22, 23, 24, 25, 26, 27, 28, 29, 30, 31, 32, 33, 34, 35, 36, 37, 38] [0] rfl rfl (by decide) (by decide) (by decide) rfl rfl rfl rfl hl.1 rfl (Nat.le_of_ble_eq_true rfl) dX7_dry_55 ⟨Nat.le_of_ble_eq_true rfl, Nat.le_of_ble_eq_true rfl⟩ (fun u_35 H locs hw hP hD hS => ?_)
              have hP : va_P D vwCl [((t 0), .inr (6, [.ref (t 1), .int 0, .ref (n 0), .ref (v 0), .ref (t 2), .ref (t 3), .ref (t 4), .ref (t 5), .ref (d 0), .ref (t 6), .ref (t 7)])), ((d 0), .inr (0, [.int 0, .ref (d 1), .ref (d 2), .ref (d 3), .int 3])), ((d 1), .inl (k 0, 4, .inl (fun _ => 0))), ((d 2), .inl (k 0, 4, .inl (fun _ => 0))), ((d 3), .inl (k 4, 5, .inr (.inr (.inr (.inr (va_rs [(d0 0), (d1 0), (d2 0), (d3 0), (d4 0)]))))))] H := hP
              have hD : va_D A [((t 0), .inr (6, [.ref (t 1), .int 0, .ref (n 0), .ref (v 0), .ref (t 2), .ref (t 3), .ref (t 4), .ref (t 5), .ref (d 0), .ref (t 6), .ref (t 7)])), ((d 0), .inr (0, [.int 0, .ref (d 1), .ref (d 2), .ref (d 3), .int 3])), ((d 1), .inl (k 0, 4, .inl (fun _ => 0))), ((d 2), .inl (k 0, 4, .inl (fun _ => 0))), ((d 3), .inl (k 4, 5, .inr (.inr (.inr (.inr (va_rs [(d0 0), (d1 0), (d2 0), (d3 0), (d4 0)]))))))] := hD
              refine lv_iload_n hx hb dX7_dry_58 rfl (lv_at hl 2 rfl) ?_
              refine lv_if_ne (tgt := 70) hx hb dX7_dry_59 (by decide) (fun c_36 => ?_) (fun c_36 => by have q := ti_eq c_36; have q : x.toInt = 0 := q; exfalso; omega)
              have c_36 : x.toInt ≠ 0 := ti_ne c_36
              refine lv_iload_n hx hb dX7_dry_70 rfl (lv_at hl 2 rfl) ?_
              refine lv_bipush (v := 10) hx hb dX7_dry_71 (by decide) ?_
              refine lv_isub hx hb dX7_dry_73 ?_
              refine lv_topi (fun z_37 ez_37 => ?_)
              have tz_37 : z_37.toInt = x.toInt - 10 := by rw [ez_37]; exact ti_subc (by decide) (by omega) (by omega)
              refine lv_istore_n (lv' := [(3, .int z_37), (0, .ref (t 0)), (1, .int a), (2, .int x)]) hx hb dX7_dry_74 rfl hl (by decide) rfl (fun ls hl => ?_)
              refine lv_iload_n hx hb dX7_dry_75 rfl (lv_at hl 0 rfl) ?_
              refine lv_iload_n hx hb dX7_dry_76 rfl (lv_at hl 2 rfl) ?_
              refine lv_ni (v := 3) (qc_22) ?_
              refine lv_icmp_ge (tgt := 92) hx hb dX7_dry_77 (by decide) (fun c_38 => ?_) (fun c_38 => ?_)
              · have c_38 : 3 ≤ z_37.toInt := ti_le c_38
                have qc_38 : z_37 = 3 := ti_of (show z_37.toInt = 3 from by omega)
                refine lv_iconst (v := (-1)) hx hb dX7_dry_92 (by decide) ?_
                have hP9 := hP.sub (ws' := []) [] rfl
                have hD9 := hD.sub (ws' := []) [] (by decide) rfl
                exact W.iret (v := (-1)) hx hb hr (fun t ht hW => ⟨⟨(-1), (), rfl, (by (repeat' split) <;> first | rfl | (exfalso; omega)), by rw [ht]; exact hP9, hD9⟩, hS.F ht⟩) hS.2.2 dX7_dry_93
              · have c_38 : z_37.toInt < 3 := ti_nle c_38
                refine lv_aload_n hx hb dX7_dry_80 rfl (lv_at hl 1 rfl) ?_
                refine va_get (D := D) (ci := 6) (v := .ref (d 0)) (C := RX7) (T := TX7) (N := 11) hx hb hts inlX7 hown hK hP 0 rfl rfl 8 (by decide) (hts _ mw_34) (fun _ h9 => h9) rfl dX7_dry_81 ?_
                refine va_get (D := D) (ci := 0) (v := .ref (d 1)) (C := RX0) (T := TX0) (N := 5) hx hb hts inlX0 hown hK hP 1 rfl rfl 1 (by decide) (hts _ mw_776) (fun _ h9 => h9) rfl dX7_dry_84 ?_
                refine lv_iload_n hx hb dX7_dry_87 rfl (lv_at hl 0 rfl) ?_
                refine va_iald hx hb hK hP 2 0 rfl rfl (vp_in_o (by omega) (by omega)) dX7_dry_88 ?_
                refine lv_ni (v := 0) (rfl) ?_
                refine lv_goto (tgt := 93) hx hb dX7_dry_89 (by decide) ?_
                have hP9 := hP.sub (ws' := []) [] rfl
                have hD9 := hD.sub (ws' := []) [] (by decide) rfl
                exact W.iret (v := 0) hx hb hr (fun t ht hW => ⟨⟨0, (), rfl, (by (repeat' split) <;> first | rfl | (exfalso; omega)), by rw [ht]; exact hP9, hD9⟩, hS.F ht⟩) hS.2.2 dX7_dry_93
            · have qc_23 : a = 4 := ti_of (show a.toInt = 4 from c_23)
              refine lv_aload_n hx hb dX7_dry_46 rfl (lv_at hl 0 rfl) ?_
              refine va_get (D := D) (ci := 6) (v := .ref (d 0)) (C := RX7) (T := TX7) (N := 11) hx hb hts inlX7 hown hK hP 0 rfl rfl 8 (by decide) (hts _ mw_34) (fun _ h9 => h9) rfl dX7_dry_47 ?_
              refine lv_aload_n hx hb dX7_dry_50 rfl (lv_at hl 0 rfl) ?_
              refine va_get (D := D) (ci := 6) (v := .ref (n 0)) (C := RX7) (T := TX7) (N := 11) hx hb hts inlX7 hown hK hP 0 rfl rfl 2 (by decide) (hts _ mw_20) (fun _ h9 => h9) rfl dX7_dry_51 ?_
              refine lv_iload_n hx hb dX7_dry_54 rfl (lv_at hl 1 rfl) ?_
              refine lv_ni (v := 4) (qc_23) ?_
              refine kV_uv (q0 := 0) (As := [.ref (n 0), .int 4]) (rest := []) (wc := [((d 0), .inr (0, [.int 0, .ref (d 1), .ref (d 2), .ref (d 3), .int 0])), ((d 1), .inl (k 0, 4, .inl (fun _ => 0))), ((d 2), .inl (k 0, 4, .inl (fun _ => 0))), ((d 3), .inl (k 4, 5, .inr (.inr (.inr (.inr (va_rs [(d0 0), (d1 0), (d2 0), (d3 0), (d4 0)])))))), ((d0 0), .inr (5, [.int 0, .int y0, .int 3, .int 8, .int 4, .int 4, .int 0, .int 0, .int 0, .int 0, .int 0, .ref (d0 1), .ref (d0 2), .ref (d0 3), .ref (d0 4), .ref (d0 5)])), ((d0 1), .inl (k 0, 10, .inl (fun _ => 0))), ((d0 2), .inl (k 0, 10, .inl (fun _ => 0))), ((d0 3), .inl (k 0, 60, .inl (fun _ => 0))), ((d0 4), .inl (k 0, 10, .inl (fun _ => 0))), ((d0 5), .inl (k 0, 60, .inl (fun _ => 0))), ((d1 0), .inr (5, [.int 0, .int y1, .int 3, .int 8, .int 4, .int 4, .int 0, .int 0, .int 0, .int 0, .int 0, .ref (d1 1), .ref (d1 2), .ref (d1 3), .ref (d1 4), .ref (d1 5)])), ((d1 1), .inl (k 0, 10, .inl (fun _ => 0))), ((d1 2), .inl (k 0, 10, .inl (fun _ => 0))), ((d1 3), .inl (k 0, 60, .inl (fun _ => 0))), ((d1 4), .inl (k 0, 10, .inl (fun _ => 0))), ((d1 5), .inl (k 0, 60, .inl (fun _ => 0))), ((d2 0), .inr (5, [.int 0, .int y2, .int 3, .int 8, .int 4, .int 4, .int 0, .int 0, .int 0, .int 0, .int 0, .ref (d2 1), .ref (d2 2), .ref (d2 3), .ref (d2 4), .ref (d2 5)])), ((d2 1), .inl (k 0, 10, .inl (fun _ => 0))), ((d2 2), .inl (k 0, 10, .inl (fun _ => 0))), ((d2 3), .inl (k 0, 60, .inl (fun _ => 0))), ((d2 4), .inl (k 0, 10, .inl (fun _ => 0))), ((d2 5), .inl (k 0, 60, .inl (fun _ => 0))), ((d3 0), .inr (5, [.int 0, .int y3, .int 3, .int 8, .int 4, .int 4, .int 0, .int 0, .int 0, .int 0, .int 0, .ref (d3 1), .ref (d3 2), .ref (d3 3), .ref (d3 4), .ref (d3 5)])), ((d3 1), .inl (k 0, 10, .inl (fun _ => 0))), ((d3 2), .inl (k 0, 10, .inl (fun _ => 0))), ((d3 3), .inl (k 0, 60, .inl (fun _ => 0))), ((d3 4), .inl (k 0, 10, .inl (fun _ => 0))), ((d3 5), .inl (k 0, 60, .inl (fun _ => 0))), ((d4 0), .inr (5, [.int 0, .int y4, .int 3, .int 8, .int 4, .int 4, .int 0, .int 0, .int 0, .int 0, .int 0, .ref (d4 1), .ref (d4 2), .ref (d4 3), .ref (d4 4), .ref (d4 5)])), ((d4 1), .inl (k 0, 10, .inl (fun _ => 0))), ((d4 2), .inl (k 0, 10, .inl (fun _ => 0))), ((d4 3), .inl (k 0, 60, .inl (fun _ => 0))), ((d4 4), .inl (k 0, 10, .inl (fun _ => 0))), ((d4 5), .inl (k 0, 60, .inl (fun _ => 0))), ((n 0), .inr (5, [.int 0, .int 0, .int 3, .int 8, .int 4, .int 4, .int 0, .int 0, .int 0, .int 0, .int 0, .ref (n 1), .ref (n 2), .ref (n 3), .ref (n 4), .ref (n 5)])), ((n 1), .inl (k 0, 10, .inl (fun _ => 0))), ((n 2), .inl (k 0, 10, .inl (fun _ => 0))), ((n 3), .inl (k 0, 60, .inl (fun _ => 0)))]) (wr := [((t 0), .inr (6, [.ref (t 1), .int 0, .ref (n 0), .ref (v 0), .ref (t 2), .ref (t 3), .ref (t 4), .ref (t 5), .ref (d 0), .ref (t 6), .ref (t 7)]))]) ⟨hx, hb, hml, hown, hts⟩ (c_D_find4 l D k _ _ _ _ _ _ y0 y1 y2 y3 y4 _ _) (gV mw_777 mw_778 mw_779 mw_33 mw_780) hd_yX0_find rfl rfl ⟨Nat.le_of_ble_eq_true rfl, Nat.le_of_ble_eq_true rfl⟩ hK hP hD hS hA [1, 2, 3, 4, 5, 6, 7, 8, 9, 10, 11, 12, 13, 14, 15, 16, 17, 18, 19, 20, 21, 22, 23, 24, 25, 26, 27, 28, 29, 30, 31, 32, 33, 34, 35, 36, 37, 38] [0] rfl rfl (by decide) (by decide) (by decide) rfl rfl rfl rfl hl.1 rfl (Nat.le_of_ble_eq_true rfl) dX7_dry_55 ⟨Nat.le_of_ble_eq_true rfl, Nat.le_of_ble_eq_true rfl⟩ (fun u_40 H locs hw hP hD hS => ?_)
              have hP : va_P D vwCl [((t 0), .inr (6, [.ref (t 1), .int 0, .ref (n 0), .ref (v 0), .ref (t 2), .ref (t 3), .ref (t 4), .ref (t 5), .ref (d 0), .ref (t 6), .ref (t 7)])), ((d 0), .inr (0, [.int 0, .ref (d 1), .ref (d 2), .ref (d 3), .int 4])), ((d 1), .inl (k 0, 4, .inl (fun _ => 0))), ((d 2), .inl (k 0, 4, .inl (fun _ => 0))), ((d 3), .inl (k 4, 5, .inr (.inr (.inr (.inr (va_rs [(d0 0), (d1 0), (d2 0), (d3 0), (d4 0)]))))))] H := hP
              have hD : va_D A [((t 0), .inr (6, [.ref (t 1), .int 0, .ref (n 0), .ref (v 0), .ref (t 2), .ref (t 3), .ref (t 4), .ref (t 5), .ref (d 0), .ref (t 6), .ref (t 7)])), ((d 0), .inr (0, [.int 0, .ref (d 1), .ref (d 2), .ref (d 3), .int 4])), ((d 1), .inl (k 0, 4, .inl (fun _ => 0))), ((d 2), .inl (k 0, 4, .inl (fun _ => 0))), ((d 3), .inl (k 4, 5, .inr (.inr (.inr (.inr (va_rs [(d0 0), (d1 0), (d2 0), (d3 0), (d4 0)]))))))] := hD
              refine lv_iload_n hx hb dX7_dry_58 rfl (lv_at hl 2 rfl) ?_
              refine lv_if_ne (tgt := 70) hx hb dX7_dry_59 (by decide) (fun c_41 => ?_) (fun c_41 => by have q := ti_eq c_41; have q : x.toInt = 0 := q; exfalso; omega)
              have c_41 : x.toInt ≠ 0 := ti_ne c_41
              refine lv_iload_n hx hb dX7_dry_70 rfl (lv_at hl 2 rfl) ?_
              refine lv_bipush (v := 10) hx hb dX7_dry_71 (by decide) ?_
              refine lv_isub hx hb dX7_dry_73 ?_
              refine lv_topi (fun z_42 ez_42 => ?_)
              have tz_42 : z_42.toInt = x.toInt - 10 := by rw [ez_42]; exact ti_subc (by decide) (by omega) (by omega)
              refine lv_istore_n (lv' := [(3, .int z_42), (0, .ref (t 0)), (1, .int a), (2, .int x)]) hx hb dX7_dry_74 rfl hl (by decide) rfl (fun ls hl => ?_)
              refine lv_iload_n hx hb dX7_dry_75 rfl (lv_at hl 0 rfl) ?_
              refine lv_iload_n hx hb dX7_dry_76 rfl (lv_at hl 2 rfl) ?_
              refine lv_ni (v := 4) (qc_23) ?_
              refine lv_icmp_ge (tgt := 92) hx hb dX7_dry_77 (by decide) (fun c_43 => by have q := ti_le c_43; have q : 4 ≤ z_42.toInt := q; exfalso; omega) (fun c_43 => ?_)
              have c_43 : z_42.toInt < 4 := ti_nle c_43
              refine lv_aload_n hx hb dX7_dry_80 rfl (lv_at hl 1 rfl) ?_
              refine va_get (D := D) (ci := 6) (v := .ref (d 0)) (C := RX7) (T := TX7) (N := 11) hx hb hts inlX7 hown hK hP 0 rfl rfl 8 (by decide) (hts _ mw_34) (fun _ h9 => h9) rfl dX7_dry_81 ?_
              refine va_get (D := D) (ci := 0) (v := .ref (d 1)) (C := RX0) (T := TX0) (N := 5) hx hb hts inlX0 hown hK hP 1 rfl rfl 1 (by decide) (hts _ mw_776) (fun _ h9 => h9) rfl dX7_dry_84 ?_
              refine lv_iload_n hx hb dX7_dry_87 rfl (lv_at hl 0 rfl) ?_
              refine va_iald hx hb hK hP 2 0 rfl rfl (vp_in_o (by omega) (by omega)) dX7_dry_88 ?_
              refine lv_ni (v := 0) (rfl) ?_
              refine lv_goto (tgt := 93) hx hb dX7_dry_89 (by decide) ?_
              have hP9 := hP.sub (ws' := []) [] rfl
              have hD9 := hD.sub (ws' := []) [] (by decide) rfl
              exact W.iret (v := 0) hx hb hr (fun t ht hW => ⟨⟨0, (), rfl, (by (repeat' split) <;> first | rfl | (exfalso; omega)), by rw [ht]; exact hP9, hD9⟩, hS.F ht⟩) hS.2.2 dX7_dry_93
          · have c_19 : 4 < a.toInt := ti_nle c_19
            refine lv_bipush (v := (-3)) hx hb dX7_dry_29 (by decide) ?_
            have hP9 := hP.sub (ws' := []) [] rfl
            have hD9 := hD.sub (ws' := []) [] (by decide) rfl
            exact W.iret (v := (-3)) hx hb hr (fun t ht hW => ⟨⟨(-3), (), rfl, (by (repeat' split) <;> first | rfl | (exfalso; omega)), by rw [ht]; exact hP9, hD9⟩, hS.F ht⟩) hS.2.2 dX7_dry_31
      · have c_17 : 14 ≤ x.toInt := ti_nlt c_17
        refine lv_bipush (v := (-2)) hx hb dX7_dry_16 (by decide) ?_
        have hP9 := hP.sub (ws' := []) [] rfl
        have hD9 := hD.sub (ws' := []) [] (by decide) rfl
        exact W.iret (v := (-2)) hx hb hr (fun t ht hW => ⟨⟨(-2), (), rfl, (by (repeat' split) <;> first | rfl | (exfalso; omega)), by rw [ht]; exact hP9, hD9⟩, hS.F ht⟩) hS.2.2 dX7_dry_18
set_option maxHeartbeats 4000000 in
set_option maxRecDepth 100000 in
theorem c_T_miceIn (l : Launch) (D : va_G) (k : Nat → ClassId) (t : Nat → Nat) (n : Nat → Nat) (v : Nat → Nat) (d : Nat → Nat) (a : Int32) (sz : Nat) : Met l yX7_miceIn (Cond.code yX7_miceIn cX7_miceIn 3 (some .int) :: wsL_law) ({ frames := 3, cells := 0, slots := 0, locals := 180 } : Room) (va_Pc [.ref (t 0), .int a] (pu D k sz [((t 0), .inr (6, [.ref (t 1), .int 0, .ref (n 0), .ref (v 0), .ref (t 2), .ref (t 3), .ref (t 4), .ref (t 5), .ref (d 0), .ref (t 6), .ref (t 7)])), ((n 0), .inr (5, [.int 0, .int 0, .int 3, .int 8, .int 4, .int 4, .int 0, .int 0, .int 0, .int 0, .int 0, .ref (n 1), .ref (n 2), .ref (n 3), .ref (n 4), .ref (n 5)])), ((n 1), .inl (k 0, 10, .inl (fun _ => 0))), ((n 2), .inl (k 0, 10, .inl (fun _ => 0))), ((n 3), .inl (k 0, 60, .inl (fun _ => 0))), ((v 0), .inr (5, [.int 0, .int 0, .int 3, .int 8, .int 4, .int 4, .int 0, .int 0, .int 0, .int 0, .int 0, .ref (v 1), .ref (v 2), .ref (v 3), .ref (v 4), .ref (v 5)])), ((v 1), .inl (k 0, 10, .inl (fun _ => 0))), ((v 2), .inl (k 0, 10, .inl (fun _ => 0))), ((v 3), .inl (k 0, 60, .inl (fun _ => 0))), ((v 4), .inl (k 0, 10, .inl (fun _ => 0))), ((v 5), .inl (k 0, 60, .inl (fun _ => 0)))])) (va_Qi (fun rr (uu : Unit) => rr = if 0 ≤ a.toInt ∧ a.toInt ≤ 30 then 0 else (-3)) (qu D (va_A [((t 0), .inr (6, [.ref (t 1), .int 0, .ref (n 0), .ref (v 0), .ref (t 2), .ref (t 3), .ref (t 4), .ref (t 5), .ref (d 0), .ref (t 6), .ref (t 7)])), ((n 0), .inr (5, [.int 0, .int 0, .int 3, .int 8, .int 4, .int 4, .int 0, .int 0, .int 0, .int 0, .int 0, .ref (n 1), .ref (n 2), .ref (n 3), .ref (n 4), .ref (n 5)])), ((n 1), .inl (k 0, 10, .inl (fun _ => 0))), ((n 2), .inl (k 0, 10, .inl (fun _ => 0))), ((n 3), .inl (k 0, 60, .inl (fun _ => 0))), ((v 0), .inr (5, [.int 0, .int 0, .int 3, .int 8, .int 4, .int 4, .int 0, .int 0, .int 0, .int 0, .int 0, .ref (v 1), .ref (v 2), .ref (v 3), .ref (v 4), .ref (v 5)])), ((v 1), .inl (k 0, 10, .inl (fun _ => 0))), ((v 2), .inl (k 0, 10, .inl (fun _ => 0))), ((v 3), .inl (k 0, 60, .inl (fun _ => 0))), ((v 4), .inl (k 0, 10, .inl (fun _ => 0))), ((v 5), .inl (k 0, 60, .inl (fun _ => 0)))] sz) (fun uu : Unit => [])) (va_A [((t 0), .inr (6, [.ref (t 1), .int 0, .ref (n 0), .ref (v 0), .ref (t 2), .ref (t 3), .ref (t 4), .ref (t 5), .ref (d 0), .ref (t 6), .ref (t 7)])), ((n 0), .inr (5, [.int 0, .int 0, .int 3, .int 8, .int 4, .int 4, .int 0, .int 0, .int 0, .int 0, .int 0, .ref (n 1), .ref (n 2), .ref (n 3), .ref (n 4), .ref (n 5)])), ((n 1), .inl (k 0, 10, .inl (fun _ => 0))), ((n 2), .inl (k 0, 10, .inl (fun _ => 0))), ((n 3), .inl (k 0, 60, .inl (fun _ => 0))), ((v 0), .inr (5, [.int 0, .int 0, .int 3, .int 8, .int 4, .int 4, .int 0, .int 0, .int 0, .int 0, .int 0, .ref (v 1), .ref (v 2), .ref (v 3), .ref (v 4), .ref (v 5)])), ((v 1), .inl (k 0, 10, .inl (fun _ => 0))), ((v 2), .inl (k 0, 10, .inl (fun _ => 0))), ((v 3), .inl (k 0, 60, .inl (fun _ => 0))), ((v 4), .inl (k 0, 10, .inl (fun _ => 0))), ((v 5), .inl (k 0, 60, .inl (fun _ => 0)))] sz)) 0 0 (va_A [((t 0), .inr (6, [.ref (t 1), .int 0, .ref (n 0), .ref (v 0), .ref (t 2), .ref (t 3), .ref (t 4), .ref (t 5), .ref (d 0), .ref (t 6), .ref (t 7)])), ((n 0), .inr (5, [.int 0, .int 0, .int 3, .int 8, .int 4, .int 4, .int 0, .int 0, .int 0, .int 0, .int 0, .ref (n 1), .ref (n 2), .ref (n 3), .ref (n 4), .ref (n 5)])), ((n 1), .inl (k 0, 10, .inl (fun _ => 0))), ((n 2), .inl (k 0, 10, .inl (fun _ => 0))), ((n 3), .inl (k 0, 60, .inl (fun _ => 0))), ((v 0), .inr (5, [.int 0, .int 0, .int 3, .int 8, .int 4, .int 4, .int 0, .int 0, .int 0, .int 0, .int 0, .ref (v 1), .ref (v 2), .ref (v 3), .ref (v 4), .ref (v 5)])), ((v 1), .inl (k 0, 10, .inl (fun _ => 0))), ((v 2), .inl (k 0, 10, .inl (fun _ => 0))), ((v 3), .inl (k 0, 60, .inl (fun _ => 0))), ((v 4), .inl (k 0, 10, .inl (fun _ => 0))), ((v 5), .inl (k 0, 60, .inl (fun _ => 0)))] sz) := by
  refine Met.ofW (cc := cX7_miceIn) (maxL := 3) (ret := (some .int)) (by decide) rfl ?_
  intro p e s m args below meth c s₁ B hml hv
  obtain ⟨rfl, hsz, hP, hK, hD0⟩ := hv
  have hx := B.exec
  have hb := B.bytes
  have hr := B.returns
  have hts : ∀ w ∈ wsL_law, w.before _ s = true := fun w h => atoms_spec (ws := Cond.code yX7_miceIn cX7_miceIn 3 (some .int) :: wsL_law) B.pre w (List.mem_cons_of_mem _ h)
  have hown : s.vm.findClass RX7 = some m.cls := findClass_of_methodNamed B.named
  have hlocks := B.notSynchronized
  subst hsz
  have hD := hD0.self (sz := s.heap.size)
  generalize hAe : va_A [((t 0), .inr (6, [.ref (t 1), .int 0, .ref (n 0), .ref (v 0), .ref (t 2), .ref (t 3), .ref (t 4), .ref (t 5), .ref (d 0), .ref (t 6), .ref (t 7)])), ((n 0), .inr (5, [.int 0, .int 0, .int 3, .int 8, .int 4, .int 4, .int 0, .int 0, .int 0, .int 0, .int 0, .ref (n 1), .ref (n 2), .ref (n 3), .ref (n 4), .ref (n 5)])), ((n 1), .inl (k 0, 10, .inl (fun _ => 0))), ((n 2), .inl (k 0, 10, .inl (fun _ => 0))), ((n 3), .inl (k 0, 60, .inl (fun _ => 0))), ((v 0), .inr (5, [.int 0, .int 0, .int 3, .int 8, .int 4, .int 4, .int 0, .int 0, .int 0, .int 0, .int 0, .ref (v 1), .ref (v 2), .ref (v 3), .ref (v 4), .ref (v 5)])), ((v 1), .inl (k 0, 10, .inl (fun _ => 0))), ((v 2), .inl (k 0, 10, .inl (fun _ => 0))), ((v 3), .inl (k 0, 60, .inl (fun _ => 0))), ((v 4), .inl (k 0, 10, .inl (fun _ => 0))), ((v 5), .inl (k 0, 60, .inl (fun _ => 0)))] s.heap.size = A at hD ⊢
  have hA : ∀ q : Nat, s.heap.size ≤ q → A q := fun q h => by rw [← hAe]; exact Or.inr h
  have hS : va_S A s.heap s.heap [] := va_S.rf
  have hP : va_P D vwCl [((t 0), .inr (6, [.ref (t 1), .int 0, .ref (n 0), .ref (v 0), .ref (t 2), .ref (t 3), .ref (t 4), .ref (t 5), .ref (d 0), .ref (t 6), .ref (t 7)])), ((n 0), .inr (5, [.int 0, .int 0, .int 3, .int 8, .int 4, .int 4, .int 0, .int 0, .int 0, .int 0, .int 0, .ref (n 1), .ref (n 2), .ref (n 3), .ref (n 4), .ref (n 5)])), ((n 1), .inl (k 0, 10, .inl (fun _ => 0))), ((n 2), .inl (k 0, 10, .inl (fun _ => 0))), ((n 3), .inl (k 0, 60, .inl (fun _ => 0))), ((v 0), .inr (5, [.int 0, .int 0, .int 3, .int 8, .int 4, .int 4, .int 0, .int 0, .int 0, .int 0, .int 0, .ref (v 1), .ref (v 2), .ref (v 3), .ref (v 4), .ref (v 5)])), ((v 1), .inl (k 0, 10, .inl (fun _ => 0))), ((v 2), .inl (k 0, 10, .inl (fun _ => 0))), ((v 3), .inl (k 0, 60, .inl (fun _ => 0))), ((v 4), .inl (k 0, 10, .inl (fun _ => 0))), ((v 5), .inl (k 0, 60, .inl (fun _ => 0)))] s.heap := hP
  have hl := lv_entry ([.ref (t 0), .int a]) (n := 3) (Nat.le_of_ble_eq_true rfl)
  rw [lg_entry_eq]
  generalize (lg_sl ([.ref (t 0), .int a]) ++ List.replicate (3 - (lg_sl ([.ref (t 0), .int a])).length) Slot.unset).toArray = ls at hl ⊢
  have hl : lv_has ls 3 [(0, .ref (t 0)), (1, .int a)] := hl
  refine lv_iload_n hx hb dX7_miceIn_0 rfl (lv_at hl 1 rfl) ?_
  refine lv_if_lt (tgt := 10) hx hb dX7_miceIn_1 (by decide) (fun c_1 => ?_) (fun c_1 => ?_)
  · have c_1 : a.toInt < 0 := ti_lt c_1
    refine lv_bipush (v := (-3)) hx hb dX7_miceIn_10 (by decide) ?_
    have hP9 := hP.sub (ws' := []) [] rfl
    have hD9 := hD.sub (ws' := []) [] (by decide) rfl
    exact W.iret (v := (-3)) hx hb hr (fun t ht hW => ⟨⟨(-3), (), rfl, (by (repeat' split) <;> first | rfl | (exfalso; omega)), by rw [ht]; exact hP9, hD9⟩, hS.F ht⟩) hS.2.2 dX7_miceIn_12
  · have c_1 : 0 ≤ a.toInt := ti_nlt c_1
    refine lv_iload_n hx hb dX7_miceIn_4 rfl (lv_at hl 1 rfl) ?_
    refine lv_bipush (v := 30) hx hb dX7_miceIn_5 (by decide) ?_
    refine lv_icmp_le (tgt := 13) hx hb dX7_miceIn_7 (by decide) (fun c_2 => ?_) (fun c_2 => ?_)
    · have c_2 : a.toInt ≤ 30 := ti_le c_2
      refine lv_aload_n hx hb dX7_miceIn_13 rfl (lv_at hl 0 rfl) ?_
      refine va_get (D := D) (ci := 6) (v := .ref (v 0)) (C := RX7) (T := TX7) (N := 11) hx hb hts inlX7 hown hK hP 0 rfl rfl 3 (by decide) (hts _ mw_21) (fun _ h9 => h9) rfl dX7_miceIn_14 ?_
      refine lv_aload_n hx hb dX7_miceIn_17 rfl (lv_at hl 0 rfl) ?_
      refine va_get (D := D) (ci := 6) (v := .ref (n 0)) (C := RX7) (T := TX7) (N := 11) hx hb hts inlX7 hown hK hP 0 rfl rfl 2 (by decide) (hts _ mw_20) (fun _ h9 => h9) rfl dX7_miceIn_18 ?_
      refine kV_uv (q0 := 0) (As := [.ref (n 0)]) (rest := []) (wc := [((v 0), .inr (5, [.int 0, .int 0, .int 3, .int 8, .int 4, .int 4, .int 0, .int 0, .int 0, .int 0, .int 0, .ref (v 1), .ref (v 2), .ref (v 3), .ref (v 4), .ref (v 5)])), ((v 1), .inl (k 0, 10, .inl (fun _ => 0))), ((v 2), .inl (k 0, 10, .inl (fun _ => 0))), ((v 3), .inl (k 0, 60, .inl (fun _ => 0))), ((n 0), .inr (5, [.int 0, .int 0, .int 3, .int 8, .int 4, .int 4, .int 0, .int 0, .int 0, .int 0, .int 0, .ref (n 1), .ref (n 2), .ref (n 3), .ref (n 4), .ref (n 5)])), ((n 1), .inl (k 0, 10, .inl (fun _ => 0))), ((n 2), .inl (k 0, 10, .inl (fun _ => 0))), ((n 3), .inl (k 0, 60, .inl (fun _ => 0)))]) (wr := [((t 0), .inr (6, [.ref (t 1), .int 0, .ref (n 0), .ref (v 0), .ref (t 2), .ref (t 3), .ref (t 4), .ref (t 5), .ref (d 0), .ref (t 6), .ref (t 7)])), ((v 4), .inl (k 0, 10, .inl (fun _ => 0))), ((v 5), .inl (k 0, 60, .inl (fun _ => 0)))]) ⟨hx, hb, hml, hown, hts⟩ (c_W_copyFrom l D k v n 0 0 _) (gV mw_275 mw_276 mw_277 mw_19 mw_278) hd_yX6_copyFrom rfl rfl ⟨Nat.le_of_ble_eq_true rfl, Nat.le_of_ble_eq_true rfl⟩ hK hP hD hS hA [5, 6, 7, 8, 1, 2, 3, 4] [0, 9, 10] rfl rfl (by decide) (by decide) (by decide) rfl rfl rfl rfl hl.1 rfl (Nat.le_of_ble_eq_true rfl) dX7_miceIn_21 ⟨Nat.le_of_ble_eq_true rfl, Nat.le_of_ble_eq_true rfl⟩ (fun u_4 H locs hw hP hD hS => ?_)
      have hP : va_P D vwCl [((t 0), .inr (6, [.ref (t 1), .int 0, .ref (n 0), .ref (v 0), .ref (t 2), .ref (t 3), .ref (t 4), .ref (t 5), .ref (d 0), .ref (t 6), .ref (t 7)])), ((v 4), .inl (k 0, 10, .inl (fun _ => 0))), ((v 5), .inl (k 0, 60, .inl (fun _ => 0))), ((v 0), .inr (5, [.int 0, .int 0, .int 3, .int 8, .int 4, .int 4, .int 0, .int 0, .int 0, .int 0, .int 0, .ref (v 1), .ref (v 2), .ref (v 3), .ref (v 4), .ref (v 5)])), ((v 1), .inl (k 0, 10, .inl (fun _ => 0))), ((v 2), .inl (k 0, 10, .inl (fun _ => 0))), ((v 3), .inl (k 0, 60, .inl (fun _ => 0))), ((n 0), .inr (5, [.int 0, .int 0, .int 3, .int 8, .int 4, .int 4, .int 0, .int 0, .int 0, .int 0, .int 0, .ref (n 1), .ref (n 2), .ref (n 3), .ref (n 4), .ref (n 5)])), ((n 1), .inl (k 0, 10, .inl (fun _ => 0))), ((n 2), .inl (k 0, 10, .inl (fun _ => 0))), ((n 3), .inl (k 0, 60, .inl (fun _ => 0)))] H := hP
      have hD : va_D A [((t 0), .inr (6, [.ref (t 1), .int 0, .ref (n 0), .ref (v 0), .ref (t 2), .ref (t 3), .ref (t 4), .ref (t 5), .ref (d 0), .ref (t 6), .ref (t 7)])), ((v 4), .inl (k 0, 10, .inl (fun _ => 0))), ((v 5), .inl (k 0, 60, .inl (fun _ => 0))), ((v 0), .inr (5, [.int 0, .int 0, .int 3, .int 8, .int 4, .int 4, .int 0, .int 0, .int 0, .int 0, .int 0, .ref (v 1), .ref (v 2), .ref (v 3), .ref (v 4), .ref (v 5)])), ((v 1), .inl (k 0, 10, .inl (fun _ => 0))), ((v 2), .inl (k 0, 10, .inl (fun _ => 0))), ((v 3), .inl (k 0, 60, .inl (fun _ => 0))), ((n 0), .inr (5, [.int 0, .int 0, .int 3, .int 8, .int 4, .int 4, .int 0, .int 0, .int 0, .int 0, .int 0, .ref (n 1), .ref (n 2), .ref (n 3), .ref (n 4), .ref (n 5)])), ((n 1), .inl (k 0, 10, .inl (fun _ => 0))), ((n 2), .inl (k 0, 10, .inl (fun _ => 0))), ((n 3), .inl (k 0, 60, .inl (fun _ => 0)))] := hD
      refine lv_iconst (v := 0) hx hb dX7_miceIn_24 (by decide) ?_
      refine lv_istore_n (lv' := [(2, .int 0), (0, .ref (t 0)), (1, .int a)]) hx hb dX7_miceIn_25 rfl hl (by decide) rfl (fun ls hl => ?_)
      refine W_loop (σ := Int32 × Int32) (fun xx H locs ls => (0 ≤ xx.1.toInt ∧ xx.1.toInt ≤ a.toInt) ∧ va_P D vwCl [((t 0), .inr (6, [.ref (t 1), .int 0, .ref (n 0), .ref (v 0), .ref (t 2), .ref (t 3), .ref (t 4), .ref (t 5), .ref (d 0), .ref (t 6), .ref (t 7)])), ((v 4), .inl (k 0, 10, .inl (fun _ => 0))), ((v 5), .inl (k 0, 60, .inl (fun _ => 0))), ((v 0), .inr (5, [.int 0, .int xx.2, .int 3, .int 8, .int 4, .int 4, .int 0, .int 0, .int 0, .int 0, .int 0, .ref (v 1), .ref (v 2), .ref (v 3), .ref (v 4), .ref (v 5)])), ((v 1), .inl (k 0, 10, .inl (fun _ => 0))), ((v 2), .inl (k 0, 10, .inl (fun _ => 0))), ((v 3), .inl (k 0, 60, .inl (fun _ => 0))), ((n 0), .inr (5, [.int 0, .int 0, .int 3, .int 8, .int 4, .int 4, .int 0, .int 0, .int 0, .int 0, .int 0, .ref (n 1), .ref (n 2), .ref (n 3), .ref (n 4), .ref (n 5)])), ((n 1), .inl (k 0, 10, .inl (fun _ => 0))), ((n 2), .inl (k 0, 10, .inl (fun _ => 0))), ((n 3), .inl (k 0, 60, .inl (fun _ => 0)))] H ∧ va_D A [((t 0), .inr (6, [.ref (t 1), .int 0, .ref (n 0), .ref (v 0), .ref (t 2), .ref (t 3), .ref (t 4), .ref (t 5), .ref (d 0), .ref (t 6), .ref (t 7)])), ((v 4), .inl (k 0, 10, .inl (fun _ => 0))), ((v 5), .inl (k 0, 60, .inl (fun _ => 0))), ((v 0), .inr (5, [.int 0, .int xx.2, .int 3, .int 8, .int 4, .int 4, .int 0, .int 0, .int 0, .int 0, .int 0, .ref (v 1), .ref (v 2), .ref (v 3), .ref (v 4), .ref (v 5)])), ((v 1), .inl (k 0, 10, .inl (fun _ => 0))), ((v 2), .inl (k 0, 10, .inl (fun _ => 0))), ((v 3), .inl (k 0, 60, .inl (fun _ => 0))), ((n 0), .inr (5, [.int 0, .int 0, .int 3, .int 8, .int 4, .int 4, .int 0, .int 0, .int 0, .int 0, .int 0, .ref (n 1), .ref (n 2), .ref (n 3), .ref (n 4), .ref (n 5)])), ((n 1), .inl (k 0, 10, .inl (fun _ => 0))), ((n 2), .inl (k 0, 10, .inl (fun _ => 0))), ((n 3), .inl (k 0, 60, .inl (fun _ => 0)))] ∧ va_S A s.heap H locs ∧ lv_has ls 3 [(2, .int xx.1), (0, .ref (t 0)), (1, .int a)]) (fun xx => (a.toInt - xx.1.toInt).toNat) ?_ (0, 0) _ _ ls ⟨(show 0 ≤ (0 : Int32).toInt ∧ (0 : Int32).toInt ≤ a.toInt from ⟨by decide, by rw [show (0 : Int32).toInt = 0 from by decide]; omega⟩), hP.sub [0, 1, 2, 3, 4, 5, 6, 7, 8, 9, 10] rfl, hD.sub [0, 1, 2, 3, 4, 5, 6, 7, 8, 9, 10] (by decide) rfl, hS, lv_sub hl [0, 1, 2] rfl⟩
      intro xx H locs ls hI ih
      obtain ⟨i_5, y_6⟩ := xx
      obtain ⟨h_7, hP, hD, hS, hl⟩ := hI
      have h_7 : 0 ≤ i_5.toInt ∧ i_5.toInt ≤ a.toInt := h_7
      obtain ⟨h_7a, h_7b⟩ := h_7
      have hP : va_P D vwCl [((t 0), .inr (6, [.ref (t 1), .int 0, .ref (n 0), .ref (v 0), .ref (t 2), .ref (t 3), .ref (t 4), .ref (t 5), .ref (d 0), .ref (t 6), .ref (t 7)])), ((v 4), .inl (k 0, 10, .inl (fun _ => 0))), ((v 5), .inl (k 0, 60, .inl (fun _ => 0))), ((v 0), .inr (5, [.int 0, .int y_6, .int 3, .int 8, .int 4, .int 4, .int 0, .int 0, .int 0, .int 0, .int 0, .ref (v 1), .ref (v 2), .ref (v 3), .ref (v 4), .ref (v 5)])), ((v 1), .inl (k 0, 10, .inl (fun _ => 0))), ((v 2), .inl (k 0, 10, .inl (fun _ => 0))), ((v 3), .inl (k 0, 60, .inl (fun _ => 0))), ((n 0), .inr (5, [.int 0, .int 0, .int 3, .int 8, .int 4, .int 4, .int 0, .int 0, .int 0, .int 0, .int 0, .ref (n 1), .ref (n 2), .ref (n 3), .ref (n 4), .ref (n 5)])), ((n 1), .inl (k 0, 10, .inl (fun _ => 0))), ((n 2), .inl (k 0, 10, .inl (fun _ => 0))), ((n 3), .inl (k 0, 60, .inl (fun _ => 0)))] H := hP
      have hD : va_D A [((t 0), .inr (6, [.ref (t 1), .int 0, .ref (n 0), .ref (v 0), .ref (t 2), .ref (t 3), .ref (t 4), .ref (t 5), .ref (d 0), .ref (t 6), .ref (t 7)])), ((v 4), .inl (k 0, 10, .inl (fun _ => 0))), ((v 5), .inl (k 0, 60, .inl (fun _ => 0))), ((v 0), .inr (5, [.int 0, .int y_6, .int 3, .int 8, .int 4, .int 4, .int 0, .int 0, .int 0, .int 0, .int 0, .ref (v 1), .ref (v 2), .ref (v 3), .ref (v 4), .ref (v 5)])), ((v 1), .inl (k 0, 10, .inl (fun _ => 0))), ((v 2), .inl (k 0, 10, .inl (fun _ => 0))), ((v 3), .inl (k 0, 60, .inl (fun _ => 0))), ((n 0), .inr (5, [.int 0, .int 0, .int 3, .int 8, .int 4, .int 4, .int 0, .int 0, .int 0, .int 0, .int 0, .ref (n 1), .ref (n 2), .ref (n 3), .ref (n 4), .ref (n 5)])), ((n 1), .inl (k 0, 10, .inl (fun _ => 0))), ((n 2), .inl (k 0, 10, .inl (fun _ => 0))), ((n 3), .inl (k 0, 60, .inl (fun _ => 0)))] := hD
      have hl : lv_has ls 3 [(2, .int i_5), (0, .ref (t 0)), (1, .int a)] := hl
      refine lv_iload_n hx hb dX7_miceIn_26 rfl (lv_at hl 0 rfl) ?_
      refine lv_iload_n hx hb dX7_miceIn_27 rfl (lv_at hl 2 rfl) ?_
      refine lv_icmp_ge (tgt := 45) hx hb dX7_miceIn_28 (by decide) (fun c_8 => ?_) (fun c_8 => ?_)
      · have c_8 : a.toInt ≤ i_5.toInt := ti_le c_8
        refine lv_aload_n hx hb dX7_miceIn_45 rfl (lv_at hl 1 rfl) ?_
        refine va_get (D := D) (ci := 6) (v := .ref (v 0)) (C := RX7) (T := TX7) (N := 11) hx hb hts inlX7 hown hK hP 0 rfl rfl 3 (by decide) (hts _ mw_21) (fun _ h9 => h9) rfl dX7_miceIn_46 ?_
        refine kV_i (q0 := 0) (As := []) (rest := []) (cs := [((v 0), .inr (5, [.int 0, .int y_6, .int 3, .int 8, .int 4, .int 4, .int 0, .int 0, .int 0, .int 0, .int 0, .ref (v 1), .ref (v 2), .ref (v 3), .ref (v 4), .ref (v 5)]))]) ⟨hx, hb, hml, hown, hts⟩ (c_W_miceInAll l D k v y_6) (gV mw_834 mw_835 mw_836 mw_19 mw_837) hd_yX6_miceInAll rfl rfl ⟨Nat.le_of_ble_eq_true rfl, Nat.le_of_ble_eq_true rfl⟩ hK (hP.sub (ws' := [((v 0), .inr (5, [.int 0, .int y_6, .int 3, .int 8, .int 4, .int 4, .int 0, .int 0, .int 0, .int 0, .int 0, .ref (v 1), .ref (v 2), .ref (v 3), .ref (v 4), .ref (v 5)]))]) [3] rfl) rfl rfl rfl rfl hl.1 rfl (Nat.le_of_ble_eq_true rfl) dX7_miceIn_49 ⟨Nat.le_of_ble_eq_true rfl, Nat.le_of_ble_eq_true rfl⟩ (fun r_9 hr_9 => ?_)
        obtain rfl : r_9 = 0 := hr_9
        have hP9 := hP.sub (ws' := []) [] rfl
        have hD9 := hD.sub (ws' := []) [] (by decide) rfl
        exact W.iret (v := 0) hx hb hr (fun t ht hW => ⟨⟨0, (), rfl, (by (repeat' split) <;> first | rfl | (exfalso; omega)), by rw [ht]; exact hP9, hD9⟩, hS.F ht⟩) hS.2.2 dX7_miceIn_52
      · have c_8 : i_5.toInt < a.toInt := ti_nle c_8
        refine lv_aload_n hx hb dX7_miceIn_31 rfl (lv_at hl 1 rfl) ?_
        refine va_get (D := D) (ci := 6) (v := .ref (v 0)) (C := RX7) (T := TX7) (N := 11) hx hb hts inlX7 hown hK hP 0 rfl rfl 3 (by decide) (hts _ mw_21) (fun _ h9 => h9) rfl dX7_miceIn_32 ?_
        refine lv_iconst (v := 0) hx hb dX7_miceIn_35 (by decide) ?_
        refine kV_uv (q0 := 0) (As := [.int 0]) (rest := []) (wc := [((v 0), .inr (5, [.int 0, .int y_6, .int 3, .int 8, .int 4, .int 4, .int 0, .int 0, .int 0, .int 0, .int 0, .ref (v 1), .ref (v 2), .ref (v 3), .ref (v 4), .ref (v 5)])), ((v 1), .inl (k 0, 10, .inl (fun _ => 0))), ((v 2), .inl (k 0, 10, .inl (fun _ => 0))), ((v 3), .inl (k 0, 60, .inl (fun _ => 0))), ((v 4), .inl (k 0, 10, .inl (fun _ => 0))), ((v 5), .inl (k 0, 60, .inl (fun _ => 0)))]) (wr := [((t 0), .inr (6, [.ref (t 1), .int 0, .ref (n 0), .ref (v 0), .ref (t 2), .ref (t 3), .ref (t 4), .ref (t 5), .ref (d 0), .ref (t 6), .ref (t 7)])), ((n 0), .inr (5, [.int 0, .int 0, .int 3, .int 8, .int 4, .int 4, .int 0, .int 0, .int 0, .int 0, .int 0, .ref (n 1), .ref (n 2), .ref (n 3), .ref (n 4), .ref (n 5)])), ((n 1), .inl (k 0, 10, .inl (fun _ => 0))), ((n 2), .inl (k 0, 10, .inl (fun _ => 0))), ((n 3), .inl (k 0, 60, .inl (fun _ => 0)))]) ⟨hx, hb, hml, hown, hts⟩ (c_W_passYear l D k v y_6 0 _) (gV mw_478 mw_479 mw_480 mw_19 mw_481) hd_yX6_passYear rfl rfl ⟨Nat.le_of_ble_eq_true rfl, Nat.le_of_ble_eq_true rfl⟩ hK hP hD hS hA [3, 4, 5, 6, 1, 2] [0, 7, 8, 9, 10] rfl rfl (by decide) (by decide) (by decide) rfl rfl rfl rfl hl.1 rfl (Nat.le_of_ble_eq_true rfl) dX7_miceIn_36 ⟨Nat.le_of_ble_eq_true rfl, Nat.le_of_ble_eq_true rfl⟩ (fun u_11 H locs hw hP hD hS => ?_)
        obtain ⟨v_12, rfl⟩ : ∃ z, z = u_11 := ⟨_, rfl⟩
        have hP : va_P D vwCl [((t 0), .inr (6, [.ref (t 1), .int 0, .ref (n 0), .ref (v 0), .ref (t 2), .ref (t 3), .ref (t 4), .ref (t 5), .ref (d 0), .ref (t 6), .ref (t 7)])), ((n 0), .inr (5, [.int 0, .int 0, .int 3, .int 8, .int 4, .int 4, .int 0, .int 0, .int 0, .int 0, .int 0, .ref (n 1), .ref (n 2), .ref (n 3), .ref (n 4), .ref (n 5)])), ((n 1), .inl (k 0, 10, .inl (fun _ => 0))), ((n 2), .inl (k 0, 10, .inl (fun _ => 0))), ((n 3), .inl (k 0, 60, .inl (fun _ => 0))), ((v 0), .inr (5, [.int 0, .int v_12, .int 3, .int 8, .int 4, .int 4, .int 0, .int 0, .int 0, .int 0, .int 0, .ref (v 1), .ref (v 2), .ref (v 3), .ref (v 4), .ref (v 5)])), ((v 1), .inl (k 0, 10, .inl (fun _ => 0))), ((v 2), .inl (k 0, 10, .inl (fun _ => 0))), ((v 3), .inl (k 0, 60, .inl (fun _ => 0))), ((v 4), .inl (k 0, 10, .inl (fun _ => 0))), ((v 5), .inl (k 0, 60, .inl (fun _ => 0)))] H := hP
        have hD : va_D A [((t 0), .inr (6, [.ref (t 1), .int 0, .ref (n 0), .ref (v 0), .ref (t 2), .ref (t 3), .ref (t 4), .ref (t 5), .ref (d 0), .ref (t 6), .ref (t 7)])), ((n 0), .inr (5, [.int 0, .int 0, .int 3, .int 8, .int 4, .int 4, .int 0, .int 0, .int 0, .int 0, .int 0, .ref (n 1), .ref (n 2), .ref (n 3), .ref (n 4), .ref (n 5)])), ((n 1), .inl (k 0, 10, .inl (fun _ => 0))), ((n 2), .inl (k 0, 10, .inl (fun _ => 0))), ((n 3), .inl (k 0, 60, .inl (fun _ => 0))), ((v 0), .inr (5, [.int 0, .int v_12, .int 3, .int 8, .int 4, .int 4, .int 0, .int 0, .int 0, .int 0, .int 0, .ref (v 1), .ref (v 2), .ref (v 3), .ref (v 4), .ref (v 5)])), ((v 1), .inl (k 0, 10, .inl (fun _ => 0))), ((v 2), .inl (k 0, 10, .inl (fun _ => 0))), ((v 3), .inl (k 0, 60, .inl (fun _ => 0))), ((v 4), .inl (k 0, 10, .inl (fun _ => 0))), ((v 5), .inl (k 0, 60, .inl (fun _ => 0)))] := hD
        obtain ⟨z_13, ez_13⟩ : ∃ y : Int32, y = i_5 + 1 := ⟨_, rfl⟩
        have tz_13 : z_13.toInt = i_5.toInt + 1 := by rw [ez_13]; exact ti_addc (by decide) (by omega) (by omega)
        refine lv_iinc (v := z_13) (lv' := [(2, .int z_13), (0, .ref (t 0)), (1, .int a)]) hx hb dX7_miceIn_39 hl (k := 0) rfl (ez_13.symm) (by decide) rfl (fun ls hl => ?_)
        refine lv_goto (tgt := 26) hx hb dX7_miceIn_42 (by decide) ?_
        exact ih (z_13, v_12) _ _ ls (by show (a.toInt - z_13.toInt).toNat < (a.toInt - i_5.toInt).toNat; omega) ⟨(show 0 ≤ z_13.toInt ∧ z_13.toInt ≤ a.toInt from ⟨by omega, by omega⟩), hP.sub [0, 9, 10, 5, 6, 7, 8, 1, 2, 3, 4] rfl, hD.sub [0, 9, 10, 5, 6, 7, 8, 1, 2, 3, 4] (by decide) rfl, hS, lv_sub hl [0, 1, 2] rfl⟩
    · have c_2 : 30 < a.toInt := ti_nle c_2
      refine lv_bipush (v := (-3)) hx hb dX7_miceIn_10 (by decide) ?_
      have hP9 := hP.sub (ws' := []) [] rfl
      have hD9 := hD.sub (ws' := []) [] (by decide) rfl
      exact W.iret (v := (-3)) hx hb hr (fun t ht hW => ⟨⟨(-3), (), rfl, (by (repeat' split) <;> first | rfl | (exfalso; omega)), by rw [ht]; exact hP9, hD9⟩, hS.F ht⟩) hS.2.2 dX7_miceIn_12
set_option maxHeartbeats 4000000 in
set_option maxRecDepth 100000 in
theorem c_T_cats (l : Launch) (D : va_G) (k : Nat → ClassId) (t : Nat → Nat) (n : Nat → Nat) (v : Nat → Nat) (d : Nat → Nat) (a : Int32) : Met l yX7_cats (Cond.code yX7_cats cX7_cats 6 (some .int) :: wsL_law) ({ frames := 1, cells := 0, slots := 0, locals := 60 } : Room) (va_Pc [.ref (t 0), .int a] (pr D k [((t 0), .inr (6, [.ref (t 1), .int 0, .ref (n 0), .ref (v 0), .ref (t 2), .ref (t 3), .ref (t 4), .ref (t 5), .ref (d 0), .ref (t 6), .ref (t 7)])), ((n 0), .inr (5, [.int 0, .int 0, .int 3, .int 8, .int 4, .int 4, .int 0, .int 0, .int 0, .int 0, .int 0, .ref (n 1), .ref (n 2), .ref (n 3), .ref (n 4), .ref (n 5)]))])) (vp_Si (fun rr => rr = if 1 ≤ a.toInt ∧ a.toInt ≤ 8 then 0 else (-3))) 0 0 (fun _ => False) := by
  refine Met.ofW (cc := cX7_cats) (maxL := 6) (ret := (some .int)) (by decide) rfl ?_
  intro p e s m args below meth c s₁ B hml hv
  obtain ⟨rfl, hP, hK⟩ := hv
  have hx := B.exec
  have hb := B.bytes
  have hr := B.returns
  have hts : ∀ w ∈ wsL_law, w.before _ s = true := fun w h => atoms_spec (ws := Cond.code yX7_cats cX7_cats 6 (some .int) :: wsL_law) B.pre w (List.mem_cons_of_mem _ h)
  have hown : s.vm.findClass RX7 = some m.cls := findClass_of_methodNamed B.named
  have hlocks := B.notSynchronized
  have hP : va_P D vwCl [((t 0), .inr (6, [.ref (t 1), .int 0, .ref (n 0), .ref (v 0), .ref (t 2), .ref (t 3), .ref (t 4), .ref (t 5), .ref (d 0), .ref (t 6), .ref (t 7)])), ((n 0), .inr (5, [.int 0, .int 0, .int 3, .int 8, .int 4, .int 4, .int 0, .int 0, .int 0, .int 0, .int 0, .ref (n 1), .ref (n 2), .ref (n 3), .ref (n 4), .ref (n 5)]))] s.heap := hP
  have hl := lv_entry ([.ref (t 0), .int a]) (n := 6) (Nat.le_of_ble_eq_true rfl)
  rw [lg_entry_eq]
  generalize (lg_sl ([.ref (t 0), .int a]) ++ List.replicate (6 - (lg_sl ([.ref (t 0), .int a])).length) Slot.unset).toArray = ls at hl ⊢
  have hl : lv_has ls 6 [(0, .ref (t 0)), (1, .int a)] := hl
  refine lv_iload_n hx hb dX7_cats_0 rfl (lv_at hl 1 rfl) ?_
  refine lv_iconst (v := 1) hx hb dX7_cats_1 (by decide) ?_
  refine lv_icmp_lt (tgt := 11) hx hb dX7_cats_2 (by decide) (fun c_1 => ?_) (fun c_1 => ?_)
  · have c_1 : a.toInt < 1 := ti_lt c_1
    refine lv_bipush (v := (-3)) hx hb dX7_cats_11 (by decide) ?_
    exact W.iret (v := (-3)) hx hb hr (fun t ht hW => ⟨(-3), rfl, (by (repeat' split) <;> first | rfl | (exfalso; omega)), ht⟩) (fun q h => by cases h) dX7_cats_13
  · have c_1 : 1 ≤ a.toInt := ti_nlt c_1
    refine lv_iload_n hx hb dX7_cats_5 rfl (lv_at hl 1 rfl) ?_
    refine lv_bipush (v := 8) hx hb dX7_cats_6 (by decide) ?_
    refine lv_icmp_le (tgt := 14) hx hb dX7_cats_8 (by decide) (fun c_2 => ?_) (fun c_2 => ?_)
    · have c_2 : a.toInt ≤ 8 := ti_le c_2
      refine lv_aload_n hx hb dX7_cats_14 rfl (lv_at hl 0 rfl) ?_
      refine lv_iload_n hx hb dX7_cats_15 rfl (lv_at hl 1 rfl) ?_
      refine kV_i (q0 := 0) (As := [.int a]) (rest := []) (cs := [((t 0), .inr (6, [.ref (t 1), .int 0, .ref (n 0), .ref (v 0), .ref (t 2), .ref (t 3), .ref (t 4), .ref (t 5), .ref (d 0), .ref (t 6), .ref (t 7)])), ((n 0), .inr (5, [.int 0, .int 0, .int 3, .int 8, .int 4, .int 4, .int 0, .int 0, .int 0, .int 0, .int 0, .ref (n 1), .ref (n 2), .ref (n 3), .ref (n 4), .ref (n 5)]))]) ⟨hx, hb, hml, hown, hts⟩ (c_T_findMousePaths l D k _ _ _ _ a) (gV mw_855 mw_856 mw_857 mw_2 mw_858) hd_yX7_findMousePaths rfl rfl ⟨Nat.le_of_ble_eq_true rfl, Nat.le_of_ble_eq_true rfl⟩ hK (hP.sub (ws' := [((t 0), .inr (6, [.ref (t 1), .int 0, .ref (n 0), .ref (v 0), .ref (t 2), .ref (t 3), .ref (t 4), .ref (t 5), .ref (d 0), .ref (t 6), .ref (t 7)])), ((n 0), .inr (5, [.int 0, .int 0, .int 3, .int 8, .int 4, .int 4, .int 0, .int 0, .int 0, .int 0, .int 0, .ref (n 1), .ref (n 2), .ref (n 3), .ref (n 4), .ref (n 5)]))]) [0, 1] rfl) rfl rfl rfl rfl hl.1 rfl (Nat.le_of_ble_eq_true rfl) dX7_cats_16 ⟨Nat.le_of_ble_eq_true rfl, Nat.le_of_ble_eq_true rfl⟩ (fun r_3 hr_3 => ?_)
      obtain rfl : r_3 = 0 := hr_3
      refine lv_istore_n (lv' := [(2, .int 0), (0, .ref (t 0)), (1, .int a)]) hx hb dX7_cats_19 rfl hl (by decide) rfl (fun ls hl => ?_)
      refine lv_iconst (v := (-1)) hx hb dX7_cats_20 (by decide) ?_
      refine lv_istore_n (lv' := [(3, .int (-1)), (2, .int 0), (0, .ref (t 0)), (1, .int a)]) hx hb dX7_cats_21 rfl hl (by decide) rfl (fun ls hl => ?_)
      refine lv_iconst (v := 0) hx hb dX7_cats_22 (by decide) ?_
      refine lv_istore (lv' := [(4, .int 0), (3, .int (-1)), (2, .int 0), (0, .ref (t 0)), (1, .int a)]) hx hb dX7_cats_23 hl (by decide) rfl (fun ls hl => ?_)
      refine lv_iload hx hb dX7_cats_25 (lv_at hl 0 rfl) ?_
      refine lv_aload_n hx hb dX7_cats_27 rfl (lv_at hl 3 rfl) ?_
      refine va_get (D := D) (ci := 6) (v := .ref (n 0)) (C := RX7) (T := TX7) (N := 11) hx hb hts inlX7 hown hK hP 0 rfl rfl 2 (by decide) (hts _ mw_20) (fun _ h9 => h9) rfl dX7_cats_28 ?_
      refine kV_i (q0 := 0) (As := []) (rest := [.int 0]) (cs := [((n 0), .inr (5, [.int 0, .int 0, .int 3, .int 8, .int 4, .int 4, .int 0, .int 0, .int 0, .int 0, .int 0, .ref (n 1), .ref (n 2), .ref (n 3), .ref (n 4), .ref (n 5)]))]) ⟨hx, hb, hml, hown, hts⟩ (c_W_allRoofs l D k n 0) (gV mw_871 mw_475 mw_476 mw_19 mw_477) hd_yX6_allRoofs rfl rfl ⟨Nat.le_of_ble_eq_true rfl, Nat.le_of_ble_eq_true rfl⟩ hK (hP.sub (ws' := [((n 0), .inr (5, [.int 0, .int 0, .int 3, .int 8, .int 4, .int 4, .int 0, .int 0, .int 0, .int 0, .int 0, .ref (n 1), .ref (n 2), .ref (n 3), .ref (n 4), .ref (n 5)]))]) [1] rfl) rfl rfl rfl rfl hl.1 rfl (Nat.le_of_ble_eq_true rfl) dX7_cats_31 ⟨Nat.le_of_ble_eq_true rfl, Nat.le_of_ble_eq_true rfl⟩ (fun r_4 hr_4 => ?_)
      obtain rfl : r_4 = 0 := hr_4
      refine lv_icmp_gt (tgt := 98) hx hb dX7_cats_34 (by decide) (fun c9 => absurd c9 (by decide)) (fun _ => ?_)
      refine lv_iload_n hx hb dX7_cats_37 rfl (lv_at hl 1 rfl) ?_
      refine lv_iconst (v := (-1)) hx hb dX7_cats_38 (by decide) ?_
      refine lv_icmp_eq (tgt := 54) hx hb dX7_cats_39 (by decide) (fun _ => ?_) (fun c9 => absurd c9 (by decide))
      refine lv_iconst (v := 1) hx hb dX7_cats_54 (by decide) ?_
      refine lv_goto (tgt := 59) hx hb dX7_cats_55 (by decide) ?_
      refine lv_istore (lv' := [(5, .int 1), (4, .int 0), (3, .int (-1)), (2, .int 0), (0, .ref (t 0)), (1, .int a)]) hx hb dX7_cats_59 hl (by decide) rfl (fun ls hl => ?_)
      refine lv_iload hx hb dX7_cats_61 (lv_at hl 0 rfl) ?_
      refine lv_if_eq (tgt := 92) hx hb dX7_cats_63 (by decide) (fun c9 => absurd c9 (by decide)) (fun _ => ?_)
      refine lv_iload hx hb dX7_cats_66 (lv_at hl 1 rfl) ?_
      refine lv_aload_n hx hb dX7_cats_68 rfl (lv_at hl 4 rfl) ?_
      refine va_get (D := D) (ci := 6) (v := .ref (n 0)) (C := RX7) (T := TX7) (N := 11) hx hb hts inlX7 hown hK hP 0 rfl rfl 2 (by decide) (hts _ mw_20) (fun _ h9 => h9) rfl dX7_cats_69 ?_
      refine va_get (D := D) (ci := 5) (v := .int 0) (C := RX6) (T := TX6) (N := 16) hx hb hts inlX6 hown hK hP 1 rfl rfl 7 (by decide) (hts _ mw_361) (fun _ h9 => h9) rfl dX7_cats_72 ?_
      refine lv_iand hx hb dX7_cats_75 ?_
      refine lv_ni (v := 0) (by decide) ?_
      refine lv_if_ne (tgt := 92) hx hb dX7_cats_76 (by decide) (fun c9 => absurd c9 (by decide)) (fun _ => ?_)
      refine lv_aload_n hx hb dX7_cats_79 rfl (lv_at hl 4 rfl) ?_
      refine lv_iload hx hb dX7_cats_80 (lv_at hl 1 rfl) ?_
      refine lv_iload_n hx hb dX7_cats_82 rfl (lv_at hl 3 rfl) ?_
      refine kV_i (q0 := 0) (As := [.int 0, .int 0]) (rest := []) (cs := [((t 0), .inr (6, [.ref (t 1), .int 0, .ref (n 0), .ref (v 0), .ref (t 2), .ref (t 3), .ref (t 4), .ref (t 5), .ref (d 0), .ref (t 6), .ref (t 7)]))]) ⟨hx, hb, hml, hown, hts⟩ (c_T_meetsAllPaths l D k _ _ _ _ 0) (gV mw_872 mw_873 mw_874 mw_2 mw_875) hd_yX7_meetsAllPaths rfl rfl ⟨Nat.le_of_ble_eq_true rfl, Nat.le_of_ble_eq_true rfl⟩ hK (hP.sub (ws' := [((t 0), .inr (6, [.ref (t 1), .int 0, .ref (n 0), .ref (v 0), .ref (t 2), .ref (t 3), .ref (t 4), .ref (t 5), .ref (d 0), .ref (t 6), .ref (t 7)]))]) [0] rfl) rfl rfl rfl rfl hl.1 rfl (Nat.le_of_ble_eq_true rfl) dX7_cats_83 ⟨Nat.le_of_ble_eq_true rfl, Nat.le_of_ble_eq_true rfl⟩ (fun r_5 hr_5 => ?_)
      obtain rfl : r_5 = 1 := hr_5
      refine lv_if_eq (tgt := 92) hx hb dX7_cats_86 (by decide) (fun c9 => absurd c9 (by decide)) (fun _ => ?_)
      refine lv_iload hx hb dX7_cats_89 (lv_at hl 1 rfl) ?_
      refine lv_istore_n (lv' := [(3, .int 0), (5, .int 1), (4, .int 0), (2, .int 0), (0, .ref (t 0)), (1, .int a)]) hx hb dX7_cats_91 rfl hl (by decide) rfl (fun ls hl => ?_)
      refine lv_iinc (v := 1) (lv' := [(4, .int 1), (3, .int 0), (5, .int 1), (2, .int 0), (0, .ref (t 0)), (1, .int a)]) hx hb dX7_cats_92 hl (k := 2) rfl (by decide) (by decide) rfl (fun ls hl => ?_)
      refine lv_goto (tgt := 25) hx hb dX7_cats_95 (by decide) ?_
      refine lv_iload hx hb dX7_cats_25 (lv_at hl 0 rfl) ?_
      refine lv_aload_n hx hb dX7_cats_27 rfl (lv_at hl 4 rfl) ?_
      refine va_get (D := D) (ci := 6) (v := .ref (n 0)) (C := RX7) (T := TX7) (N := 11) hx hb hts inlX7 hown hK hP 0 rfl rfl 2 (by decide) (hts _ mw_20) (fun _ h9 => h9) rfl dX7_cats_28 ?_
      refine kV_i (q0 := 0) (As := []) (rest := [.int 1]) (cs := [((n 0), .inr (5, [.int 0, .int 0, .int 3, .int 8, .int 4, .int 4, .int 0, .int 0, .int 0, .int 0, .int 0, .ref (n 1), .ref (n 2), .ref (n 3), .ref (n 4), .ref (n 5)]))]) ⟨hx, hb, hml, hown, hts⟩ (c_W_allRoofs l D k n 0) (gV mw_871 mw_475 mw_476 mw_19 mw_477) hd_yX6_allRoofs rfl rfl ⟨Nat.le_of_ble_eq_true rfl, Nat.le_of_ble_eq_true rfl⟩ hK (hP.sub (ws' := [((n 0), .inr (5, [.int 0, .int 0, .int 3, .int 8, .int 4, .int 4, .int 0, .int 0, .int 0, .int 0, .int 0, .ref (n 1), .ref (n 2), .ref (n 3), .ref (n 4), .ref (n 5)]))]) [1] rfl) rfl rfl rfl rfl hl.1 rfl (Nat.le_of_ble_eq_true rfl) dX7_cats_31 ⟨Nat.le_of_ble_eq_true rfl, Nat.le_of_ble_eq_true rfl⟩ (fun r_6 hr_6 => ?_)
      obtain rfl : r_6 = 0 := hr_6
      refine lv_icmp_gt (tgt := 98) hx hb dX7_cats_34 (by decide) (fun _ => ?_) (fun c9 => absurd c9 (by decide))
      refine lv_iload_n hx hb dX7_cats_98 rfl (lv_at hl 1 rfl) ?_
      exact W.iret (v := 0) hx hb hr (fun t ht hW => ⟨0, rfl, (by (repeat' split) <;> first | rfl | (exfalso; omega)), ht⟩) (fun q h => by cases h) dX7_cats_99
    · have c_2 : 8 < a.toInt := ti_nle c_2
      refine lv_bipush (v := (-3)) hx hb dX7_cats_11 (by decide) ?_
      exact W.iret (v := (-3)) hx hb hr (fun t ht hW => ⟨(-3), rfl, (by (repeat' split) <;> first | rfl | (exfalso; omega)), ht⟩) (fun q h => by cases h) dX7_cats_13
set_option maxHeartbeats 4000000 in
set_option maxRecDepth 100000 in
theorem c_T_sparkIn (l : Launch) (D : va_G) (k : Nat → ClassId) (t : Nat → Nat) (n : Nat → Nat) (v : Nat → Nat) (d : Nat → Nat) (a : Int32) (x : Int32) : Met l yX7_sparkIn (Cond.code yX7_sparkIn cX7_sparkIn 5 (some .int) :: wsL_law) ({ frames := 1, cells := 0, slots := 0, locals := 60 } : Room) (va_Pc [.ref (t 0), .int a, .int x] (pr D k [((t 0), .inr (6, [.ref (t 1), .int 0, .ref (n 0), .ref (v 0), .ref (t 2), .ref (t 3), .ref (t 4), .ref (t 5), .ref (d 0), .ref (t 6), .ref (t 7)])), ((n 0), .inr (5, [.int 0, .int 0, .int 3, .int 8, .int 4, .int 4, .int 0, .int 0, .int 0, .int 0, .int 0, .ref (n 1), .ref (n 2), .ref (n 3), .ref (n 4), .ref (n 5)]))])) (vp_Si (fun rr => rr = (-2))) 0 0 (fun _ => False) := by
  refine Met.ofW (cc := cX7_sparkIn) (maxL := 5) (ret := (some .int)) (by decide) rfl ?_
  intro p e s m args below meth c s₁ B hml hv
  obtain ⟨rfl, hP, hK⟩ := hv
  have hx := B.exec
  have hb := B.bytes
  have hr := B.returns
  have hts : ∀ w ∈ wsL_law, w.before _ s = true := fun w h => atoms_spec (ws := Cond.code yX7_sparkIn cX7_sparkIn 5 (some .int) :: wsL_law) B.pre w (List.mem_cons_of_mem _ h)
  have hown : s.vm.findClass RX7 = some m.cls := findClass_of_methodNamed B.named
  have hlocks := B.notSynchronized
  have hP : va_P D vwCl [((t 0), .inr (6, [.ref (t 1), .int 0, .ref (n 0), .ref (v 0), .ref (t 2), .ref (t 3), .ref (t 4), .ref (t 5), .ref (d 0), .ref (t 6), .ref (t 7)])), ((n 0), .inr (5, [.int 0, .int 0, .int 3, .int 8, .int 4, .int 4, .int 0, .int 0, .int 0, .int 0, .int 0, .ref (n 1), .ref (n 2), .ref (n 3), .ref (n 4), .ref (n 5)]))] s.heap := hP
  have hl := lv_entry ([.ref (t 0), .int a, .int x]) (n := 5) (Nat.le_of_ble_eq_true rfl)
  rw [lg_entry_eq]
  generalize (lg_sl ([.ref (t 0), .int a, .int x]) ++ List.replicate (5 - (lg_sl ([.ref (t 0), .int a, .int x])).length) Slot.unset).toArray = ls at hl ⊢
  have hl : lv_has ls 5 [(0, .ref (t 0)), (1, .int a), (2, .int x)] := hl
  refine lv_aload_n hx hb dX7_sparkIn_0 rfl (lv_at hl 0 rfl) ?_
  refine va_get (D := D) (ci := 6) (v := .ref (n 0)) (C := RX7) (T := TX7) (N := 11) hx hb hts inlX7 hown hK hP 0 rfl rfl 2 (by decide) (hts _ mw_20) (fun _ h9 => h9) rfl dX7_sparkIn_1 ?_
  refine lv_iload_n hx hb dX7_sparkIn_4 rfl (lv_at hl 1 rfl) ?_
  refine kV_i (q0 := 0) (As := [.int a]) (rest := []) (cs := [((n 0), .inr (5, [.int 0, .int 0, .int 3, .int 8, .int 4, .int 4, .int 0, .int 0, .int 0, .int 0, .int 0, .ref (n 1), .ref (n 2), .ref (n 3), .ref (n 4), .ref (n 5)]))]) ⟨hx, hb, hml, hown, hts⟩ (c_W_placeOfSpark l D k n 0 a) (gV mw_899 mw_900 mw_901 mw_19 mw_902) hd_yX6_placeOfSpark rfl rfl ⟨Nat.le_of_ble_eq_true rfl, Nat.le_of_ble_eq_true rfl⟩ hK (hP.sub (ws' := [((n 0), .inr (5, [.int 0, .int 0, .int 3, .int 8, .int 4, .int 4, .int 0, .int 0, .int 0, .int 0, .int 0, .ref (n 1), .ref (n 2), .ref (n 3), .ref (n 4), .ref (n 5)]))]) [1] rfl) rfl rfl rfl rfl hl.1 rfl (Nat.le_of_ble_eq_true rfl) dX7_sparkIn_5 ⟨Nat.le_of_ble_eq_true rfl, Nat.le_of_ble_eq_true rfl⟩ (fun r_1 hr_1 => ?_)
  obtain rfl : r_1 = (-1) := hr_1
  refine lv_istore_n (lv' := [(3, .int (-1)), (0, .ref (t 0)), (1, .int a), (2, .int x)]) hx hb dX7_sparkIn_8 rfl hl (by decide) rfl (fun ls hl => ?_)
  refine lv_iload_n hx hb dX7_sparkIn_9 rfl (lv_at hl 0 rfl) ?_
  refine lv_iconst (v := (-1)) hx hb dX7_sparkIn_10 (by decide) ?_
  refine lv_icmp_ne (tgt := 17) hx hb dX7_sparkIn_11 (by decide) (fun c9 => absurd c9 (by decide)) (fun _ => ?_)
  refine lv_bipush (v := (-2)) hx hb dX7_sparkIn_14 (by decide) ?_
  exact W.iret (v := (-2)) hx hb hr (fun t ht hW => ⟨(-2), rfl, rfl, ht⟩) (fun q h => by cases h) dX7_sparkIn_16
set_option maxHeartbeats 4000000 in
set_option maxRecDepth 100000 in
theorem c_T_odds (l : Launch) (D : va_G) (k : Nat → ClassId) (t : Nat → Nat) (n : Nat → Nat) (v : Nat → Nat) (d : Nat → Nat) (a : Int32) (x : Int32) : Met l yX7_odds (Cond.code yX7_odds cX7_odds 4 (some .long) :: wsL_law) ({ frames := 1, cells := 0, slots := 0, locals := 60 } : Room) (va_Pc [.ref (t 0), .int a, .int x] (pr D k [((t 0), .inr (6, [.ref (t 1), .int 0, .ref (n 0), .ref (v 0), .ref (t 2), .ref (t 3), .ref (t 4), .ref (t 5), .ref (d 0), .ref (t 6), .ref (t 7)])), ((n 0), .inr (5, [.int 0, .int 0, .int 3, .int 8, .int 4, .int 4, .int 0, .int 0, .int 0, .int 0, .int 0, .ref (n 1), .ref (n 2), .ref (n 3), .ref (n 4), .ref (n 5)]))])) (vp_Sl (fun rr => rr = (-2))) 0 0 (fun _ => False) := by
  refine Met.ofW (cc := cX7_odds) (maxL := 4) (ret := (some .long)) (by decide) rfl ?_
  intro p e s m args below meth c s₁ B hml hv
  obtain ⟨rfl, hP, hK⟩ := hv
  have hx := B.exec
  have hb := B.bytes
  have hr := B.returns
  have hts : ∀ w ∈ wsL_law, w.before _ s = true := fun w h => atoms_spec (ws := Cond.code yX7_odds cX7_odds 4 (some .long) :: wsL_law) B.pre w (List.mem_cons_of_mem _ h)
  have hown : s.vm.findClass RX7 = some m.cls := findClass_of_methodNamed B.named
  have hlocks := B.notSynchronized
  have hP : va_P D vwCl [((t 0), .inr (6, [.ref (t 1), .int 0, .ref (n 0), .ref (v 0), .ref (t 2), .ref (t 3), .ref (t 4), .ref (t 5), .ref (d 0), .ref (t 6), .ref (t 7)])), ((n 0), .inr (5, [.int 0, .int 0, .int 3, .int 8, .int 4, .int 4, .int 0, .int 0, .int 0, .int 0, .int 0, .ref (n 1), .ref (n 2), .ref (n 3), .ref (n 4), .ref (n 5)]))] s.heap := hP
  have hl := lv_entry ([.ref (t 0), .int a, .int x]) (n := 4) (Nat.le_of_ble_eq_true rfl)
  rw [lg_entry_eq]
  generalize (lg_sl ([.ref (t 0), .int a, .int x]) ++ List.replicate (4 - (lg_sl ([.ref (t 0), .int a, .int x])).length) Slot.unset).toArray = ls at hl ⊢
  have hl : lv_has ls 4 [(0, .ref (t 0)), (1, .int a), (2, .int x)] := hl
  refine lv_aload_n hx hb dX7_odds_0 rfl (lv_at hl 0 rfl) ?_
  refine va_get (D := D) (ci := 6) (v := .ref (n 0)) (C := RX7) (T := TX7) (N := 11) hx hb hts inlX7 hown hK hP 0 rfl rfl 2 (by decide) (hts _ mw_20) (fun _ h9 => h9) rfl dX7_odds_1 ?_
  refine lv_iload_n hx hb dX7_odds_4 rfl (lv_at hl 1 rfl) ?_
  refine kV_i (q0 := 0) (As := [.int a]) (rest := []) (cs := [((n 0), .inr (5, [.int 0, .int 0, .int 3, .int 8, .int 4, .int 4, .int 0, .int 0, .int 0, .int 0, .int 0, .ref (n 1), .ref (n 2), .ref (n 3), .ref (n 4), .ref (n 5)]))]) ⟨hx, hb, hml, hown, hts⟩ (c_W_isRoof l D k n 0 a) (gV mw_364 mw_365 mw_366 mw_19 mw_367) hd_yX6_isRoof rfl rfl ⟨Nat.le_of_ble_eq_true rfl, Nat.le_of_ble_eq_true rfl⟩ hK (hP.sub (ws' := [((n 0), .inr (5, [.int 0, .int 0, .int 3, .int 8, .int 4, .int 4, .int 0, .int 0, .int 0, .int 0, .int 0, .ref (n 1), .ref (n 2), .ref (n 3), .ref (n 4), .ref (n 5)]))]) [1] rfl) rfl rfl rfl rfl hl.1 rfl (Nat.le_of_ble_eq_true rfl) dX7_odds_5 ⟨Nat.le_of_ble_eq_true rfl, Nat.le_of_ble_eq_true rfl⟩ (fun r_1 hr_1 => ?_)
  obtain rfl : r_1 = 0 := hr_1
  refine lv_if_ne (tgt := 15) hx hb dX7_odds_8 (by decide) (fun c9 => absurd c9 (by decide)) (fun _ => ?_)
  refine lv_ldc2 (own := RX7) (index := 287) (v := (-2)) hx hb hown (hts _ mw_920) dX7_odds_11 ?_
  exact W.lret (v := (-2)) hx hb hr (fun t ht hW => ⟨(-2), rfl, rfl, ht⟩) (fun q h => by cases h) dX7_odds_14
set_option maxHeartbeats 4000000 in
set_option maxRecDepth 100000 in
theorem c_T_outOf (l : Launch) (D : va_G) (k : Nat → ClassId) (t : Nat → Nat) (n : Nat → Nat) (v : Nat → Nat) (d : Nat → Nat) (a : Int32) : Met l yX7_outOf (Cond.code yX7_outOf cX7_outOf 3 (some .long) :: wsL_law) ({ frames := 2, cells := 0, slots := 0, locals := 120 } : Room) (va_Pc [.ref (t 0), .int a] (pr D k [((t 0), .inr (6, [.ref (t 1), .int 0, .ref (n 0), .ref (v 0), .ref (t 2), .ref (t 3), .ref (t 4), .ref (t 5), .ref (d 0), .ref (t 6), .ref (t 7)])), ((n 0), .inr (5, [.int 0, .int 0, .int 3, .int 8, .int 4, .int 4, .int 0, .int 0, .int 0, .int 0, .int 0, .ref (n 1), .ref (n 2), .ref (n 3), .ref (n 4), .ref (n 5)]))])) (vp_Sl (fun rr => rr = if 1 ≤ a.toInt ∧ a.toInt ≤ 6 then 1 else (-3))) 0 0 (fun _ => False) := by
  refine Met.ofW (cc := cX7_outOf) (maxL := 3) (ret := (some .long)) (by decide) rfl ?_
  intro p e s m args below meth c s₁ B hml hv
  obtain ⟨rfl, hP, hK⟩ := hv
  have hx := B.exec
  have hb := B.bytes
  have hr := B.returns
  have hts : ∀ w ∈ wsL_law, w.before _ s = true := fun w h => atoms_spec (ws := Cond.code yX7_outOf cX7_outOf 3 (some .long) :: wsL_law) B.pre w (List.mem_cons_of_mem _ h)
  have hown : s.vm.findClass RX7 = some m.cls := findClass_of_methodNamed B.named
  have hlocks := B.notSynchronized
  have hP : va_P D vwCl [((t 0), .inr (6, [.ref (t 1), .int 0, .ref (n 0), .ref (v 0), .ref (t 2), .ref (t 3), .ref (t 4), .ref (t 5), .ref (d 0), .ref (t 6), .ref (t 7)])), ((n 0), .inr (5, [.int 0, .int 0, .int 3, .int 8, .int 4, .int 4, .int 0, .int 0, .int 0, .int 0, .int 0, .ref (n 1), .ref (n 2), .ref (n 3), .ref (n 4), .ref (n 5)]))] s.heap := hP
  have hl := lv_entry ([.ref (t 0), .int a]) (n := 3) (Nat.le_of_ble_eq_true rfl)
  rw [lg_entry_eq]
  generalize (lg_sl ([.ref (t 0), .int a]) ++ List.replicate (3 - (lg_sl ([.ref (t 0), .int a])).length) Slot.unset).toArray = ls at hl ⊢
  have hl : lv_has ls 3 [(0, .ref (t 0)), (1, .int a)] := hl
  refine lv_aload_n hx hb dX7_outOf_0 rfl (lv_at hl 0 rfl) ?_
  refine lv_iload_n hx hb dX7_outOf_1 rfl (lv_at hl 1 rfl) ?_
  refine kV_i (q0 := 0) (As := [.int a]) (rest := []) (cs := [((t 0), .inr (6, [.ref (t 1), .int 0, .ref (n 0), .ref (v 0), .ref (t 2), .ref (t 3), .ref (t 4), .ref (t 5), .ref (d 0), .ref (t 6), .ref (t 7)])), ((n 0), .inr (5, [.int 0, .int 0, .int 3, .int 8, .int 4, .int 4, .int 0, .int 0, .int 0, .int 0, .int 0, .ref (n 1), .ref (n 2), .ref (n 3), .ref (n 4), .ref (n 5)]))]) ⟨hx, hb, hml, hown, hts⟩ (c_T_oddsRefusal l D k _ _ _ _ a) (gV mw_921 mw_922 mw_923 mw_2 mw_924) hd_yX7_oddsRefusal rfl rfl ⟨Nat.le_of_ble_eq_true rfl, Nat.le_of_ble_eq_true rfl⟩ hK (hP.sub (ws' := [((t 0), .inr (6, [.ref (t 1), .int 0, .ref (n 0), .ref (v 0), .ref (t 2), .ref (t 3), .ref (t 4), .ref (t 5), .ref (d 0), .ref (t 6), .ref (t 7)])), ((n 0), .inr (5, [.int 0, .int 0, .int 3, .int 8, .int 4, .int 4, .int 0, .int 0, .int 0, .int 0, .int 0, .ref (n 1), .ref (n 2), .ref (n 3), .ref (n 4), .ref (n 5)]))]) [0, 1] rfl) rfl rfl rfl rfl hl.1 rfl (Nat.le_of_ble_eq_true rfl) dX7_outOf_2 ⟨Nat.le_of_ble_eq_true rfl, Nat.le_of_ble_eq_true rfl⟩ (fun r_1 hr_1 => ?_)
  by_cases hc_2 : 1 ≤ a.toInt ∧ a.toInt ≤ 6
  · obtain rfl : r_1 = 0 := hr_1.trans (if_pos hc_2)
    refine lv_istore_n (lv' := [(2, .int 0), (0, .ref (t 0)), (1, .int a)]) hx hb dX7_outOf_5 rfl hl (by decide) rfl (fun ls hl => ?_)
    refine lv_iload_n hx hb dX7_outOf_6 rfl (lv_at hl 0 rfl) ?_
    refine lv_if_eq (tgt := 15) hx hb dX7_outOf_7 (by decide) (fun _ => ?_) (fun c9 => absurd c9 (by decide))
    refine lv_aload_n hx hb dX7_outOf_15 rfl (lv_at hl 1 rfl) ?_
    refine va_get (D := D) (ci := 6) (v := .ref (n 0)) (C := RX7) (T := TX7) (N := 11) hx hb hts inlX7 hown hK hP 0 rfl rfl 2 (by decide) (hts _ mw_20) (fun _ h9 => h9) rfl dX7_outOf_16 ?_
    refine va_get (D := D) (ci := 5) (v := .int 4) (C := RX6) (T := TX6) (N := 16) hx hb hts inlX6 hown hK hP 1 rfl rfl 5 (by decide) (hts _ mw_929) (fun _ h9 => h9) rfl dX7_outOf_19 ?_
    refine lv_iload_n hx hb dX7_outOf_22 rfl (lv_at hl 2 rfl) ?_
    refine lv_aload_n hx hb dX7_outOf_23 rfl (lv_at hl 1 rfl) ?_
    refine va_get (D := D) (ci := 6) (v := .ref (n 0)) (C := RX7) (T := TX7) (N := 11) hx hb hts inlX7 hown hK hP 0 rfl rfl 2 (by decide) (hts _ mw_20) (fun _ h9 => h9) rfl dX7_outOf_24 ?_
    refine kV_i (q0 := 0) (As := []) (rest := [.int a, .int 4]) (cs := [((n 0), .inr (5, [.int 0, .int 0, .int 3, .int 8, .int 4, .int 4, .int 0, .int 0, .int 0, .int 0, .int 0, .ref (n 1), .ref (n 2), .ref (n 3), .ref (n 4), .ref (n 5)]))]) ⟨hx, hb, hml, hown, hts⟩ (c_W_sparksInAll l D k n 0) (gV mw_886 mw_887 mw_888 mw_19 mw_889) hd_yX6_sparksInAll rfl rfl ⟨Nat.le_of_ble_eq_true rfl, Nat.le_of_ble_eq_true rfl⟩ hK (hP.sub (ws' := [((n 0), .inr (5, [.int 0, .int 0, .int 3, .int 8, .int 4, .int 4, .int 0, .int 0, .int 0, .int 0, .int 0, .ref (n 1), .ref (n 2), .ref (n 3), .ref (n 4), .ref (n 5)]))]) [1] rfl) rfl rfl rfl rfl hl.1 rfl (Nat.le_of_ble_eq_true rfl) dX7_outOf_27 ⟨Nat.le_of_ble_eq_true rfl, Nat.le_of_ble_eq_true rfl⟩ (fun r_3 hr_3 => ?_)
    obtain rfl : r_3 = 0 := hr_3
    refine lv_imul hx hb dX7_outOf_30 ?_
    refine lv_ni (v := 0) (mul_0 _) ?_
    refine kS_l (As := [.int 4, .int 0]) (rest := []) (cs := []) ⟨hx, hb, hml, hown, hts⟩ (c_T_power0 l D k 4) (gS mw_930 mw_931 mw_2 mw_932) hd_yX7_power rfl rfl ⟨Nat.le_of_ble_eq_true rfl, Nat.le_of_ble_eq_true rfl⟩ hK (hP.sub (ws' := []) [] rfl) rfl hl.1 rfl (Nat.le_of_ble_eq_true rfl) dX7_outOf_31 ⟨Nat.le_of_ble_eq_true rfl, Nat.le_of_ble_eq_true rfl⟩ (fun r_4 hr_4 => ?_)
    obtain rfl : r_4 = 1 := hr_4
    exact W.lret (v := 1) hx hb hr (fun t ht hW => ⟨1, rfl, (by (repeat' split) <;> first | rfl | (exfalso; omega)), ht⟩) (fun q h => by cases h) dX7_outOf_34
  have hr_1 := hr_1.trans (if_neg hc_2)
  obtain rfl : r_1 = (-3) := hr_1
  refine lv_istore_n (lv' := [(2, .int (-3)), (0, .ref (t 0)), (1, .int a)]) hx hb dX7_outOf_5 rfl hl (by decide) rfl (fun ls hl => ?_)
  refine lv_iload_n hx hb dX7_outOf_6 rfl (lv_at hl 0 rfl) ?_
  refine lv_if_eq (tgt := 15) hx hb dX7_outOf_7 (by decide) (fun c9 => absurd c9 (by decide)) (fun _ => ?_)
  refine lv_iload_n hx hb dX7_outOf_10 rfl (lv_at hl 0 rfl) ?_
  refine lv_i2l (v := (-3)) hx hb dX7_outOf_11 (by decide) ?_
  refine lv_goto (tgt := 34) hx hb dX7_outOf_12 (by decide) ?_
  exact W.lret (v := (-3)) hx hb hr (fun t ht hW => ⟨(-3), rfl, (by (repeat' split) <;> first | rfl | (exfalso; omega)), ht⟩) (fun q h => by cases h) dX7_outOf_34
set_option maxHeartbeats 4000000 in
set_option maxRecDepth 100000 in
theorem c_T_open (l : Launch) (D : va_G) (k : Nat → ClassId) (t : Nat → Nat) (n : Nat → Nat) (v : Nat → Nat) (d : Nat → Nat) (a : Int32) : Met l yX7_open (Cond.code yX7_open cX7_open 9 (some .int) :: wsL_law) ({ frames := 2, cells := 0, slots := 0, locals := 120 } : Room) (va_Pc [.ref (t 0), .int a] (pr D k [((t 0), .inr (6, [.ref (t 1), .int 0, .ref (n 0), .ref (v 0), .ref (t 2), .ref (t 3), .ref (t 4), .ref (t 5), .ref (d 0), .ref (t 6), .ref (t 7)])), ((n 0), .inr (5, [.int 0, .int 0, .int 3, .int 8, .int 4, .int 4, .int 0, .int 0, .int 0, .int 0, .int 0, .ref (n 1), .ref (n 2), .ref (n 3), .ref (n 4), .ref (n 5)]))])) (vp_Si (fun rr => rr = if 1 ≤ a.toInt ∧ a.toInt ≤ 6 then (-1) else (-3))) 0 0 (fun _ => False) := by
  refine Met.ofW (cc := cX7_open) (maxL := 9) (ret := (some .int)) (by decide) rfl ?_
  intro p e s m args below meth c s₁ B hml hv
  obtain ⟨rfl, hP, hK⟩ := hv
  have hx := B.exec
  have hb := B.bytes
  have hr := B.returns
  have hts : ∀ w ∈ wsL_law, w.before _ s = true := fun w h => atoms_spec (ws := Cond.code yX7_open cX7_open 9 (some .int) :: wsL_law) B.pre w (List.mem_cons_of_mem _ h)
  have hown : s.vm.findClass RX7 = some m.cls := findClass_of_methodNamed B.named
  have hlocks := B.notSynchronized
  have hP : va_P D vwCl [((t 0), .inr (6, [.ref (t 1), .int 0, .ref (n 0), .ref (v 0), .ref (t 2), .ref (t 3), .ref (t 4), .ref (t 5), .ref (d 0), .ref (t 6), .ref (t 7)])), ((n 0), .inr (5, [.int 0, .int 0, .int 3, .int 8, .int 4, .int 4, .int 0, .int 0, .int 0, .int 0, .int 0, .ref (n 1), .ref (n 2), .ref (n 3), .ref (n 4), .ref (n 5)]))] s.heap := hP
  have hl := lv_entry ([.ref (t 0), .int a]) (n := 9) (Nat.le_of_ble_eq_true rfl)
  rw [lg_entry_eq]
  generalize (lg_sl ([.ref (t 0), .int a]) ++ List.replicate (9 - (lg_sl ([.ref (t 0), .int a])).length) Slot.unset).toArray = ls at hl ⊢
  have hl : lv_has ls 9 [(0, .ref (t 0)), (1, .int a)] := hl
  refine lv_aload_n hx hb dX7_open_0 rfl (lv_at hl 0 rfl) ?_
  refine lv_iload_n hx hb dX7_open_1 rfl (lv_at hl 1 rfl) ?_
  refine kV_i (q0 := 0) (As := [.int a]) (rest := []) (cs := [((t 0), .inr (6, [.ref (t 1), .int 0, .ref (n 0), .ref (v 0), .ref (t 2), .ref (t 3), .ref (t 4), .ref (t 5), .ref (d 0), .ref (t 6), .ref (t 7)])), ((n 0), .inr (5, [.int 0, .int 0, .int 3, .int 8, .int 4, .int 4, .int 0, .int 0, .int 0, .int 0, .int 0, .ref (n 1), .ref (n 2), .ref (n 3), .ref (n 4), .ref (n 5)]))]) ⟨hx, hb, hml, hown, hts⟩ (c_T_oddsRefusal l D k _ _ _ _ a) (gV mw_921 mw_922 mw_923 mw_2 mw_924) hd_yX7_oddsRefusal rfl rfl ⟨Nat.le_of_ble_eq_true rfl, Nat.le_of_ble_eq_true rfl⟩ hK (hP.sub (ws' := [((t 0), .inr (6, [.ref (t 1), .int 0, .ref (n 0), .ref (v 0), .ref (t 2), .ref (t 3), .ref (t 4), .ref (t 5), .ref (d 0), .ref (t 6), .ref (t 7)])), ((n 0), .inr (5, [.int 0, .int 0, .int 3, .int 8, .int 4, .int 4, .int 0, .int 0, .int 0, .int 0, .int 0, .ref (n 1), .ref (n 2), .ref (n 3), .ref (n 4), .ref (n 5)]))]) [0, 1] rfl) rfl rfl rfl rfl hl.1 rfl (Nat.le_of_ble_eq_true rfl) dX7_open_2 ⟨Nat.le_of_ble_eq_true rfl, Nat.le_of_ble_eq_true rfl⟩ (fun r_1 hr_1 => ?_)
  by_cases hc_2 : 1 ≤ a.toInt ∧ a.toInt ≤ 6
  · obtain rfl : r_1 = 0 := hr_1.trans (if_pos hc_2)
    refine lv_istore_n (lv' := [(2, .int 0), (0, .ref (t 0)), (1, .int a)]) hx hb dX7_open_5 rfl hl (by decide) rfl (fun ls hl => ?_)
    refine lv_iload_n hx hb dX7_open_6 rfl (lv_at hl 0 rfl) ?_
    refine lv_if_eq (tgt := 12) hx hb dX7_open_7 (by decide) (fun _ => ?_) (fun c9 => absurd c9 (by decide))
    refine lv_iconst (v := (-1)) hx hb dX7_open_12 (by decide) ?_
    refine lv_istore_n (lv' := [(3, .int (-1)), (2, .int 0), (0, .ref (t 0)), (1, .int a)]) hx hb dX7_open_13 rfl hl (by decide) rfl (fun ls hl => ?_)
    refine lv_lconst (v := 0) hx hb dX7_open_14 (by decide) ?_
    refine lv_lstore (lv' := [(4, .long 0), (3, .int (-1)), (2, .int 0), (0, .ref (t 0)), (1, .int a)]) hx hb dX7_open_15 hl (by decide) rfl (fun ls hl => ?_)
    refine lv_iconst (v := 0) hx hb dX7_open_17 (by decide) ?_
    refine lv_istore (lv' := [(6, .int 0), (4, .long 0), (3, .int (-1)), (2, .int 0), (0, .ref (t 0)), (1, .int a)]) hx hb dX7_open_18 hl (by decide) rfl (fun ls hl => ?_)
    refine lv_iload hx hb dX7_open_20 (lv_at hl 0 rfl) ?_
    refine lv_aload_n hx hb dX7_open_22 rfl (lv_at hl 4 rfl) ?_
    refine va_get (D := D) (ci := 6) (v := .ref (n 0)) (C := RX7) (T := TX7) (N := 11) hx hb hts inlX7 hown hK hP 0 rfl rfl 2 (by decide) (hts _ mw_20) (fun _ h9 => h9) rfl dX7_open_23 ?_
    refine va_get (D := D) (ci := 5) (v := .int 0) (C := RX6) (T := TX6) (N := 16) hx hb hts inlX6 hown hK hP 1 rfl rfl 0 (by decide) (hts _ mw_622) (fun _ h9 => h9) rfl dX7_open_26 ?_
    refine lv_icmp_ge (tgt := 62) hx hb dX7_open_29 (by decide) (fun _ => ?_) (fun c9 => absurd c9 (by decide))
    refine lv_iload_n hx hb dX7_open_62 rfl (lv_at hl 2 rfl) ?_
    exact W.iret (v := (-1)) hx hb hr (fun t ht hW => ⟨(-1), rfl, (by (repeat' split) <;> first | rfl | (exfalso; omega)), ht⟩) (fun q h => by cases h) dX7_open_63
  have hr_1 := hr_1.trans (if_neg hc_2)
  obtain rfl : r_1 = (-3) := hr_1
  refine lv_istore_n (lv' := [(2, .int (-3)), (0, .ref (t 0)), (1, .int a)]) hx hb dX7_open_5 rfl hl (by decide) rfl (fun ls hl => ?_)
  refine lv_iload_n hx hb dX7_open_6 rfl (lv_at hl 0 rfl) ?_
  refine lv_if_eq (tgt := 12) hx hb dX7_open_7 (by decide) (fun c9 => absurd c9 (by decide)) (fun _ => ?_)
  refine lv_iload_n hx hb dX7_open_10 rfl (lv_at hl 0 rfl) ?_
  exact W.iret (v := (-3)) hx hb hr (fun t ht hW => ⟨(-3), rfl, (by (repeat' split) <;> first | rfl | (exfalso; omega)), ht⟩) (fun q h => by cases h) dX7_open_11
set_option maxHeartbeats 4000000 in
set_option maxRecDepth 100000 in
theorem c_T_order (l : Launch) (D : va_G) (k : Nat → ClassId) (t : Nat → Nat) (n : Nat → Nat) (v : Nat → Nat) (d : Nat → Nat) (b : Nat → Nat) (a : Int32) (x : Int32) : Met l yX7_order (Cond.code yX7_order cX7_order 5 (some .int) :: wsL_law) ({ frames := 1, cells := 0, slots := 0, locals := 60 } : Room) (va_Pc [.ref (t 0), .int a, .int x] (pr D k [((t 0), .inr (6, [.ref (t 1), .int 0, .ref (n 0), .ref (v 0), .ref (t 2), .ref (t 3), .ref (t 4), .ref (t 5), .ref (d 0), .ref (t 6), .ref (t 7)])), ((t 4), .inl (k 5, 4, .inr (.inr (.inr (.inr (va_rs [(b 0), (b 1), (b 2), (b 3)])))))), ((b 0), .inr (2, [.int 0, .int 0, .ref (b 4), .int 0])), ((b 1), .inr (2, [.int 0, .int 0, .ref (b 5), .int 0])), ((b 2), .inr (2, [.int 0, .int 0, .ref (b 6), .int 0])), ((b 3), .inr (2, [.int 0, .int 0, .ref (b 7), .int 0]))])) (vp_Si (fun rr => rr = if (0 ≤ a.toInt ∧ a.toInt ≤ 3) ∧ (x.toInt = 0 ∨ (10 ≤ x.toInt ∧ x.toInt ≤ 19)) then (-6) else (-2))) 0 0 (fun _ => False) := by
  refine Met.ofW (cc := cX7_order) (maxL := 5) (ret := (some .int)) (by decide) rfl ?_
  intro p e s m args below meth c s₁ B hml hv
  obtain ⟨rfl, hP, hK⟩ := hv
  have hx := B.exec
  have hb := B.bytes
  have hr := B.returns
  have hts : ∀ w ∈ wsL_law, w.before _ s = true := fun w h => atoms_spec (ws := Cond.code yX7_order cX7_order 5 (some .int) :: wsL_law) B.pre w (List.mem_cons_of_mem _ h)
  have hown : s.vm.findClass RX7 = some m.cls := findClass_of_methodNamed B.named
  have hlocks := B.notSynchronized
  have hP : va_P D vwCl [((t 0), .inr (6, [.ref (t 1), .int 0, .ref (n 0), .ref (v 0), .ref (t 2), .ref (t 3), .ref (t 4), .ref (t 5), .ref (d 0), .ref (t 6), .ref (t 7)])), ((t 4), .inl (k 5, 4, .inr (.inr (.inr (.inr (va_rs [(b 0), (b 1), (b 2), (b 3)])))))), ((b 0), .inr (2, [.int 0, .int 0, .ref (b 4), .int 0])), ((b 1), .inr (2, [.int 0, .int 0, .ref (b 5), .int 0])), ((b 2), .inr (2, [.int 0, .int 0, .ref (b 6), .int 0])), ((b 3), .inr (2, [.int 0, .int 0, .ref (b 7), .int 0]))] s.heap := hP
  have hl := lv_entry ([.ref (t 0), .int a, .int x]) (n := 5) (Nat.le_of_ble_eq_true rfl)
  rw [lg_entry_eq]
  generalize (lg_sl ([.ref (t 0), .int a, .int x]) ++ List.replicate (5 - (lg_sl ([.ref (t 0), .int a, .int x])).length) Slot.unset).toArray = ls at hl ⊢
  have hl : lv_has ls 5 [(0, .ref (t 0)), (1, .int a), (2, .int x)] := hl
  refine lv_iload_n hx hb dX7_order_0 rfl (lv_at hl 1 rfl) ?_
  refine kS_i (As := [.int a]) (rest := []) (cs := []) ⟨hx, hb, hml, hown, hts⟩ (c_T_isRow l D k a) (gS mw_573 mw_574 mw_2 mw_575) hd_yX7_isRow rfl rfl ⟨Nat.le_of_ble_eq_true rfl, Nat.le_of_ble_eq_true rfl⟩ hK (hP.sub (ws' := []) [] rfl) rfl hl.1 rfl (Nat.le_of_ble_eq_true rfl) dX7_order_1 ⟨Nat.le_of_ble_eq_true rfl, Nat.le_of_ble_eq_true rfl⟩ (fun r_1 hr_1 => ?_)
  by_cases hc_2 : 0 ≤ a.toInt ∧ a.toInt ≤ 3
  · obtain rfl : r_1 = 1 := hr_1.trans (if_pos hc_2)
    refine lv_if_eq (tgt := 23) hx hb dX7_order_4 (by decide) (fun c9 => absurd c9 (by decide)) (fun _ => ?_)
    refine lv_iload_n hx hb dX7_order_7 rfl (lv_at hl 2 rfl) ?_
    refine lv_if_eq (tgt := 26) hx hb dX7_order_8 (by decide) (fun c_3 => ?_) (fun c_3 => ?_)
    · have c_3 : x.toInt = 0 := ti_eq c_3
      have qc_3 : x = 0 := ti_of (show x.toInt = 0 from by omega)
      refine lv_aload_n hx hb dX7_order_26 rfl (lv_at hl 0 rfl) ?_
      refine va_get (D := D) (ci := 6) (v := .ref (t 4)) (C := RX7) (T := TX7) (N := 11) hx hb hts inlX7 hown hK hP 0 rfl rfl 6 (by decide) (hts _ mw_26) (fun _ h9 => h9) rfl dX7_order_27 ?_
      refine lv_iload_n hx hb dX7_order_30 rfl (lv_at hl 1 rfl) ?_
      rcases (show a.toInt = 0 ∨ a.toInt = 1 ∨ a.toInt = 2 ∨ a.toInt = 3 from by omega) with c_4 | c_5 | c_6 | c_7
      · have qc_4 : a = 0 := ti_of (show a.toInt = 0 from c_4)
        refine lv_ni (v := 0) qc_4 ?_
        refine va_aldq hx hb hK hP 1 5 rfl rfl (vp_in_c (by decide)) dX7_order_31 ?_
        refine lv_nv (v := .ref (b 0)) (rfl) ?_
        refine lv_astore_n (lv' := [(3, .ref (b 0)), (0, .ref (t 0)), (1, .int a), (2, .int x)]) hx hb dX7_order_32 rfl hl (by decide) rfl (fun ls hl => ?_)
        refine lv_aload_n hx hb dX7_order_33 rfl (lv_at hl 0 rfl) ?_
        refine va_get (D := D) (ci := 2) (v := .int 0) (C := RX3) (T := TX3) (N := 4) hx hb hts inlX3 hown hK hP 2 rfl rfl 0 (by decide) (hts _ mw_570) (fun _ h9 => h9) rfl dX7_order_34 ?_
        refine lv_if_ne (tgt := 43) hx hb dX7_order_37 (by decide) (fun c9 => absurd c9 (by decide)) (fun _ => ?_)
        refine lv_bipush (v := (-6)) hx hb dX7_order_40 (by decide) ?_
        exact W.iret (v := (-6)) hx hb hr (fun t ht hW => ⟨(-6), rfl, (by (repeat' split) <;> first | rfl | (exfalso; omega)), ht⟩) (fun q h => by cases h) dX7_order_42
      · have qc_5 : a = 1 := ti_of (show a.toInt = 1 from c_5)
        refine lv_ni (v := 1) qc_5 ?_
        refine va_aldq hx hb hK hP 1 5 rfl rfl (vp_in_c (by decide)) dX7_order_31 ?_
        refine lv_nv (v := .ref (b 1)) (rfl) ?_
        refine lv_astore_n (lv' := [(3, .ref (b 1)), (0, .ref (t 0)), (1, .int a), (2, .int x)]) hx hb dX7_order_32 rfl hl (by decide) rfl (fun ls hl => ?_)
        refine lv_aload_n hx hb dX7_order_33 rfl (lv_at hl 0 rfl) ?_
        refine va_get (D := D) (ci := 2) (v := .int 0) (C := RX3) (T := TX3) (N := 4) hx hb hts inlX3 hown hK hP 3 rfl rfl 0 (by decide) (hts _ mw_570) (fun _ h9 => h9) rfl dX7_order_34 ?_
        refine lv_if_ne (tgt := 43) hx hb dX7_order_37 (by decide) (fun c9 => absurd c9 (by decide)) (fun _ => ?_)
        refine lv_bipush (v := (-6)) hx hb dX7_order_40 (by decide) ?_
        exact W.iret (v := (-6)) hx hb hr (fun t ht hW => ⟨(-6), rfl, (by (repeat' split) <;> first | rfl | (exfalso; omega)), ht⟩) (fun q h => by cases h) dX7_order_42
      · have qc_6 : a = 2 := ti_of (show a.toInt = 2 from c_6)
        refine lv_ni (v := 2) qc_6 ?_
        refine va_aldq hx hb hK hP 1 5 rfl rfl (vp_in_c (by decide)) dX7_order_31 ?_
        refine lv_nv (v := .ref (b 2)) (rfl) ?_
        refine lv_astore_n (lv' := [(3, .ref (b 2)), (0, .ref (t 0)), (1, .int a), (2, .int x)]) hx hb dX7_order_32 rfl hl (by decide) rfl (fun ls hl => ?_)
        refine lv_aload_n hx hb dX7_order_33 rfl (lv_at hl 0 rfl) ?_
        refine va_get (D := D) (ci := 2) (v := .int 0) (C := RX3) (T := TX3) (N := 4) hx hb hts inlX3 hown hK hP 4 rfl rfl 0 (by decide) (hts _ mw_570) (fun _ h9 => h9) rfl dX7_order_34 ?_
        refine lv_if_ne (tgt := 43) hx hb dX7_order_37 (by decide) (fun c9 => absurd c9 (by decide)) (fun _ => ?_)
        refine lv_bipush (v := (-6)) hx hb dX7_order_40 (by decide) ?_
        exact W.iret (v := (-6)) hx hb hr (fun t ht hW => ⟨(-6), rfl, (by (repeat' split) <;> first | rfl | (exfalso; omega)), ht⟩) (fun q h => by cases h) dX7_order_42
      · have qc_7 : a = 3 := ti_of (show a.toInt = 3 from c_7)
        refine lv_ni (v := 3) qc_7 ?_
        refine va_aldq hx hb hK hP 1 5 rfl rfl (vp_in_c (by decide)) dX7_order_31 ?_
        refine lv_nv (v := .ref (b 3)) (rfl) ?_
        refine lv_astore_n (lv' := [(3, .ref (b 3)), (0, .ref (t 0)), (1, .int a), (2, .int x)]) hx hb dX7_order_32 rfl hl (by decide) rfl (fun ls hl => ?_)
        refine lv_aload_n hx hb dX7_order_33 rfl (lv_at hl 0 rfl) ?_
        refine va_get (D := D) (ci := 2) (v := .int 0) (C := RX3) (T := TX3) (N := 4) hx hb hts inlX3 hown hK hP 5 rfl rfl 0 (by decide) (hts _ mw_570) (fun _ h9 => h9) rfl dX7_order_34 ?_
        refine lv_if_ne (tgt := 43) hx hb dX7_order_37 (by decide) (fun c9 => absurd c9 (by decide)) (fun _ => ?_)
        refine lv_bipush (v := (-6)) hx hb dX7_order_40 (by decide) ?_
        exact W.iret (v := (-6)) hx hb hr (fun t ht hW => ⟨(-6), rfl, (by (repeat' split) <;> first | rfl | (exfalso; omega)), ht⟩) (fun q h => by cases h) dX7_order_42
    · have c_3 : x.toInt ≠ 0 := ti_ne c_3
      refine lv_iload_n hx hb dX7_order_11 rfl (lv_at hl 2 rfl) ?_
      refine lv_bipush (v := 10) hx hb dX7_order_12 (by decide) ?_
      refine lv_icmp_lt (tgt := 23) hx hb dX7_order_14 (by decide) (fun c_8 => ?_) (fun c_8 => ?_)
      · have c_8 : x.toInt < 10 := ti_lt c_8
        refine lv_bipush (v := (-2)) hx hb dX7_order_23 (by decide) ?_
        exact W.iret (v := (-2)) hx hb hr (fun t ht hW => ⟨(-2), rfl, (by (repeat' split) <;> first | rfl | (exfalso; omega)), ht⟩) (fun q h => by cases h) dX7_order_25
      · have c_8 : 10 ≤ x.toInt := ti_nlt c_8
        refine lv_iload_n hx hb dX7_order_17 rfl (lv_at hl 2 rfl) ?_
        refine lv_bipush (v := 20) hx hb dX7_order_18 (by decide) ?_
        refine lv_icmp_lt (tgt := 26) hx hb dX7_order_20 (by decide) (fun c_9 => ?_) (fun c_9 => ?_)
        · have c_9 : x.toInt < 20 := ti_lt c_9
          refine lv_aload_n hx hb dX7_order_26 rfl (lv_at hl 0 rfl) ?_
          refine va_get (D := D) (ci := 6) (v := .ref (t 4)) (C := RX7) (T := TX7) (N := 11) hx hb hts inlX7 hown hK hP 0 rfl rfl 6 (by decide) (hts _ mw_26) (fun _ h9 => h9) rfl dX7_order_27 ?_
          refine lv_iload_n hx hb dX7_order_30 rfl (lv_at hl 1 rfl) ?_
          rcases (show a.toInt = 0 ∨ a.toInt = 1 ∨ a.toInt = 2 ∨ a.toInt = 3 from by omega) with c_10 | c_11 | c_12 | c_13
          · have qc_10 : a = 0 := ti_of (show a.toInt = 0 from c_10)
            refine lv_ni (v := 0) qc_10 ?_
            refine va_aldq hx hb hK hP 1 5 rfl rfl (vp_in_c (by decide)) dX7_order_31 ?_
            refine lv_nv (v := .ref (b 0)) (rfl) ?_
            refine lv_astore_n (lv' := [(3, .ref (b 0)), (0, .ref (t 0)), (1, .int a), (2, .int x)]) hx hb dX7_order_32 rfl hl (by decide) rfl (fun ls hl => ?_)
            refine lv_aload_n hx hb dX7_order_33 rfl (lv_at hl 0 rfl) ?_
            refine va_get (D := D) (ci := 2) (v := .int 0) (C := RX3) (T := TX3) (N := 4) hx hb hts inlX3 hown hK hP 2 rfl rfl 0 (by decide) (hts _ mw_570) (fun _ h9 => h9) rfl dX7_order_34 ?_
            refine lv_if_ne (tgt := 43) hx hb dX7_order_37 (by decide) (fun c9 => absurd c9 (by decide)) (fun _ => ?_)
            refine lv_bipush (v := (-6)) hx hb dX7_order_40 (by decide) ?_
            exact W.iret (v := (-6)) hx hb hr (fun t ht hW => ⟨(-6), rfl, (by (repeat' split) <;> first | rfl | (exfalso; omega)), ht⟩) (fun q h => by cases h) dX7_order_42
          · have qc_11 : a = 1 := ti_of (show a.toInt = 1 from c_11)
            refine lv_ni (v := 1) qc_11 ?_
            refine va_aldq hx hb hK hP 1 5 rfl rfl (vp_in_c (by decide)) dX7_order_31 ?_
            refine lv_nv (v := .ref (b 1)) (rfl) ?_
            refine lv_astore_n (lv' := [(3, .ref (b 1)), (0, .ref (t 0)), (1, .int a), (2, .int x)]) hx hb dX7_order_32 rfl hl (by decide) rfl (fun ls hl => ?_)
            refine lv_aload_n hx hb dX7_order_33 rfl (lv_at hl 0 rfl) ?_
            refine va_get (D := D) (ci := 2) (v := .int 0) (C := RX3) (T := TX3) (N := 4) hx hb hts inlX3 hown hK hP 3 rfl rfl 0 (by decide) (hts _ mw_570) (fun _ h9 => h9) rfl dX7_order_34 ?_
            refine lv_if_ne (tgt := 43) hx hb dX7_order_37 (by decide) (fun c9 => absurd c9 (by decide)) (fun _ => ?_)
            refine lv_bipush (v := (-6)) hx hb dX7_order_40 (by decide) ?_
            exact W.iret (v := (-6)) hx hb hr (fun t ht hW => ⟨(-6), rfl, (by (repeat' split) <;> first | rfl | (exfalso; omega)), ht⟩) (fun q h => by cases h) dX7_order_42
          · have qc_12 : a = 2 := ti_of (show a.toInt = 2 from c_12)
            refine lv_ni (v := 2) qc_12 ?_
            refine va_aldq hx hb hK hP 1 5 rfl rfl (vp_in_c (by decide)) dX7_order_31 ?_
            refine lv_nv (v := .ref (b 2)) (rfl) ?_
            refine lv_astore_n (lv' := [(3, .ref (b 2)), (0, .ref (t 0)), (1, .int a), (2, .int x)]) hx hb dX7_order_32 rfl hl (by decide) rfl (fun ls hl => ?_)
            refine lv_aload_n hx hb dX7_order_33 rfl (lv_at hl 0 rfl) ?_
            refine va_get (D := D) (ci := 2) (v := .int 0) (C := RX3) (T := TX3) (N := 4) hx hb hts inlX3 hown hK hP 4 rfl rfl 0 (by decide) (hts _ mw_570) (fun _ h9 => h9) rfl dX7_order_34 ?_
            refine lv_if_ne (tgt := 43) hx hb dX7_order_37 (by decide) (fun c9 => absurd c9 (by decide)) (fun _ => ?_)
            refine lv_bipush (v := (-6)) hx hb dX7_order_40 (by decide) ?_
            exact W.iret (v := (-6)) hx hb hr (fun t ht hW => ⟨(-6), rfl, (by (repeat' split) <;> first | rfl | (exfalso; omega)), ht⟩) (fun q h => by cases h) dX7_order_42
          · have qc_13 : a = 3 := ti_of (show a.toInt = 3 from c_13)
            refine lv_ni (v := 3) qc_13 ?_
            refine va_aldq hx hb hK hP 1 5 rfl rfl (vp_in_c (by decide)) dX7_order_31 ?_
            refine lv_nv (v := .ref (b 3)) (rfl) ?_
            refine lv_astore_n (lv' := [(3, .ref (b 3)), (0, .ref (t 0)), (1, .int a), (2, .int x)]) hx hb dX7_order_32 rfl hl (by decide) rfl (fun ls hl => ?_)
            refine lv_aload_n hx hb dX7_order_33 rfl (lv_at hl 0 rfl) ?_
            refine va_get (D := D) (ci := 2) (v := .int 0) (C := RX3) (T := TX3) (N := 4) hx hb hts inlX3 hown hK hP 5 rfl rfl 0 (by decide) (hts _ mw_570) (fun _ h9 => h9) rfl dX7_order_34 ?_
            refine lv_if_ne (tgt := 43) hx hb dX7_order_37 (by decide) (fun c9 => absurd c9 (by decide)) (fun _ => ?_)
            refine lv_bipush (v := (-6)) hx hb dX7_order_40 (by decide) ?_
            exact W.iret (v := (-6)) hx hb hr (fun t ht hW => ⟨(-6), rfl, (by (repeat' split) <;> first | rfl | (exfalso; omega)), ht⟩) (fun q h => by cases h) dX7_order_42
        · have c_9 : 20 ≤ x.toInt := ti_nlt c_9
          refine lv_bipush (v := (-2)) hx hb dX7_order_23 (by decide) ?_
          exact W.iret (v := (-2)) hx hb hr (fun t ht hW => ⟨(-2), rfl, (by (repeat' split) <;> first | rfl | (exfalso; omega)), ht⟩) (fun q h => by cases h) dX7_order_25
  have hr_1 := hr_1.trans (if_neg hc_2)
  obtain rfl : r_1 = 0 := hr_1
  refine lv_if_eq (tgt := 23) hx hb dX7_order_4 (by decide) (fun _ => ?_) (fun c9 => absurd c9 (by decide))
  refine lv_bipush (v := (-2)) hx hb dX7_order_23 (by decide) ?_
  exact W.iret (v := (-2)) hx hb hr (fun t ht hW => ⟨(-2), rfl, (by (repeat' split) <;> first | rfl | (exfalso; omega)), ht⟩) (fun q h => by cases h) dX7_order_25
set_option maxHeartbeats 4000000 in
set_option maxRecDepth 100000 in
theorem c_T_wetted (l : Launch) (D : va_G) (k : Nat → ClassId) (t : Nat → Nat) (n : Nat → Nat) (v : Nat → Nat) (d : Nat → Nat) (b : Nat → Nat) (a : Int32) (x : Int32) : Met l yX7_wetted (Cond.code yX7_wetted cX7_wetted 4 (some .int) :: wsL_law) ({ frames := 1, cells := 0, slots := 0, locals := 60 } : Room) (va_Pc [.ref (t 0), .int a, .int x] (pr D k [((t 0), .inr (6, [.ref (t 1), .int 0, .ref (n 0), .ref (v 0), .ref (t 2), .ref (t 3), .ref (t 4), .ref (t 5), .ref (d 0), .ref (t 6), .ref (t 7)])), ((t 4), .inl (k 5, 4, .inr (.inr (.inr (.inr (va_rs [(b 0), (b 1), (b 2), (b 3)])))))), ((b 0), .inr (2, [.int 0, .int 0, .ref (b 4), .int 0])), ((b 1), .inr (2, [.int 0, .int 0, .ref (b 5), .int 0])), ((b 2), .inr (2, [.int 0, .int 0, .ref (b 6), .int 0])), ((b 3), .inr (2, [.int 0, .int 0, .ref (b 7), .int 0]))])) (vp_Si (fun rr => rr = if (0 ≤ a.toInt ∧ a.toInt ≤ 3) ∧ 0 ≤ x.toInt ∧ x.toInt ≤ 3 then (-6) else (-2))) 0 0 (fun _ => False) := by
  refine Met.ofW (cc := cX7_wetted) (maxL := 4) (ret := (some .int)) (by decide) rfl ?_
  intro p e s m args below meth c s₁ B hml hv
  obtain ⟨rfl, hP, hK⟩ := hv
  have hx := B.exec
  have hb := B.bytes
  have hr := B.returns
  have hts : ∀ w ∈ wsL_law, w.before _ s = true := fun w h => atoms_spec (ws := Cond.code yX7_wetted cX7_wetted 4 (some .int) :: wsL_law) B.pre w (List.mem_cons_of_mem _ h)
  have hown : s.vm.findClass RX7 = some m.cls := findClass_of_methodNamed B.named
  have hlocks := B.notSynchronized
  have hP : va_P D vwCl [((t 0), .inr (6, [.ref (t 1), .int 0, .ref (n 0), .ref (v 0), .ref (t 2), .ref (t 3), .ref (t 4), .ref (t 5), .ref (d 0), .ref (t 6), .ref (t 7)])), ((t 4), .inl (k 5, 4, .inr (.inr (.inr (.inr (va_rs [(b 0), (b 1), (b 2), (b 3)])))))), ((b 0), .inr (2, [.int 0, .int 0, .ref (b 4), .int 0])), ((b 1), .inr (2, [.int 0, .int 0, .ref (b 5), .int 0])), ((b 2), .inr (2, [.int 0, .int 0, .ref (b 6), .int 0])), ((b 3), .inr (2, [.int 0, .int 0, .ref (b 7), .int 0]))] s.heap := hP
  have hl := lv_entry ([.ref (t 0), .int a, .int x]) (n := 4) (Nat.le_of_ble_eq_true rfl)
  rw [lg_entry_eq]
  generalize (lg_sl ([.ref (t 0), .int a, .int x]) ++ List.replicate (4 - (lg_sl ([.ref (t 0), .int a, .int x])).length) Slot.unset).toArray = ls at hl ⊢
  have hl : lv_has ls 4 [(0, .ref (t 0)), (1, .int a), (2, .int x)] := hl
  refine lv_iload_n hx hb dX7_wetted_0 rfl (lv_at hl 1 rfl) ?_
  refine kS_i (As := [.int a]) (rest := []) (cs := []) ⟨hx, hb, hml, hown, hts⟩ (c_T_isRow l D k a) (gS mw_573 mw_574 mw_2 mw_575) hd_yX7_isRow rfl rfl ⟨Nat.le_of_ble_eq_true rfl, Nat.le_of_ble_eq_true rfl⟩ hK (hP.sub (ws' := []) [] rfl) rfl hl.1 rfl (Nat.le_of_ble_eq_true rfl) dX7_wetted_1 ⟨Nat.le_of_ble_eq_true rfl, Nat.le_of_ble_eq_true rfl⟩ (fun r_1 hr_1 => ?_)
  by_cases hc_2 : 0 ≤ a.toInt ∧ a.toInt ≤ 3
  · obtain rfl : r_1 = 1 := hr_1.trans (if_pos hc_2)
    refine lv_if_eq (tgt := 14) hx hb dX7_wetted_4 (by decide) (fun c9 => absurd c9 (by decide)) (fun _ => ?_)
    refine lv_iload_n hx hb dX7_wetted_7 rfl (lv_at hl 2 rfl) ?_
    refine kS_i (As := [.int x]) (rest := []) (cs := []) ⟨hx, hb, hml, hown, hts⟩ (c_T_isRow l D k x) (gS mw_573 mw_574 mw_2 mw_575) hd_yX7_isRow rfl rfl ⟨Nat.le_of_ble_eq_true rfl, Nat.le_of_ble_eq_true rfl⟩ hK (hP.sub (ws' := []) [] rfl) rfl hl.1 rfl (Nat.le_of_ble_eq_true rfl) dX7_wetted_8 ⟨Nat.le_of_ble_eq_true rfl, Nat.le_of_ble_eq_true rfl⟩ (fun r_3 hr_3 => ?_)
    by_cases hc_4 : 0 ≤ x.toInt ∧ x.toInt ≤ 3
    · obtain rfl : r_3 = 1 := hr_3.trans (if_pos hc_4)
      refine lv_if_ne (tgt := 17) hx hb dX7_wetted_11 (by decide) (fun _ => ?_) (fun c9 => absurd c9 (by decide))
      refine lv_aload_n hx hb dX7_wetted_17 rfl (lv_at hl 0 rfl) ?_
      refine va_get (D := D) (ci := 6) (v := .ref (t 4)) (C := RX7) (T := TX7) (N := 11) hx hb hts inlX7 hown hK hP 0 rfl rfl 6 (by decide) (hts _ mw_26) (fun _ h9 => h9) rfl dX7_wetted_18 ?_
      refine lv_iload_n hx hb dX7_wetted_21 rfl (lv_at hl 1 rfl) ?_
      rcases (show a.toInt = 0 ∨ a.toInt = 1 ∨ a.toInt = 2 ∨ a.toInt = 3 from by omega) with c_5 | c_6 | c_7 | c_8
      · have qc_5 : a = 0 := ti_of (show a.toInt = 0 from c_5)
        refine lv_ni (v := 0) qc_5 ?_
        refine va_aldq hx hb hK hP 1 5 rfl rfl (vp_in_c (by decide)) dX7_wetted_22 ?_
        refine lv_nv (v := .ref (b 0)) (rfl) ?_
        refine lv_astore_n (lv' := [(3, .ref (b 0)), (0, .ref (t 0)), (1, .int a), (2, .int x)]) hx hb dX7_wetted_23 rfl hl (by decide) rfl (fun ls hl => ?_)
        refine lv_aload_n hx hb dX7_wetted_24 rfl (lv_at hl 0 rfl) ?_
        refine va_get (D := D) (ci := 2) (v := .int 0) (C := RX3) (T := TX3) (N := 4) hx hb hts inlX3 hown hK hP 2 rfl rfl 0 (by decide) (hts _ mw_570) (fun _ h9 => h9) rfl dX7_wetted_25 ?_
        refine lv_if_eq (tgt := 43) hx hb dX7_wetted_28 (by decide) (fun _ => ?_) (fun c9 => absurd c9 (by decide))
        refine lv_bipush (v := (-6)) hx hb dX7_wetted_43 (by decide) ?_
        exact W.iret (v := (-6)) hx hb hr (fun t ht hW => ⟨(-6), rfl, (by (repeat' split) <;> first | rfl | (exfalso; omega)), ht⟩) (fun q h => by cases h) dX7_wetted_45
      · have qc_6 : a = 1 := ti_of (show a.toInt = 1 from c_6)
        refine lv_ni (v := 1) qc_6 ?_
        refine va_aldq hx hb hK hP 1 5 rfl rfl (vp_in_c (by decide)) dX7_wetted_22 ?_
        refine lv_nv (v := .ref (b 1)) (rfl) ?_
        refine lv_astore_n (lv' := [(3, .ref (b 1)), (0, .ref (t 0)), (1, .int a), (2, .int x)]) hx hb dX7_wetted_23 rfl hl (by decide) rfl (fun ls hl => ?_)
        refine lv_aload_n hx hb dX7_wetted_24 rfl (lv_at hl 0 rfl) ?_
        refine va_get (D := D) (ci := 2) (v := .int 0) (C := RX3) (T := TX3) (N := 4) hx hb hts inlX3 hown hK hP 3 rfl rfl 0 (by decide) (hts _ mw_570) (fun _ h9 => h9) rfl dX7_wetted_25 ?_
        refine lv_if_eq (tgt := 43) hx hb dX7_wetted_28 (by decide) (fun _ => ?_) (fun c9 => absurd c9 (by decide))
        refine lv_bipush (v := (-6)) hx hb dX7_wetted_43 (by decide) ?_
        exact W.iret (v := (-6)) hx hb hr (fun t ht hW => ⟨(-6), rfl, (by (repeat' split) <;> first | rfl | (exfalso; omega)), ht⟩) (fun q h => by cases h) dX7_wetted_45
      · have qc_7 : a = 2 := ti_of (show a.toInt = 2 from c_7)
        refine lv_ni (v := 2) qc_7 ?_
        refine va_aldq hx hb hK hP 1 5 rfl rfl (vp_in_c (by decide)) dX7_wetted_22 ?_
        refine lv_nv (v := .ref (b 2)) (rfl) ?_
        refine lv_astore_n (lv' := [(3, .ref (b 2)), (0, .ref (t 0)), (1, .int a), (2, .int x)]) hx hb dX7_wetted_23 rfl hl (by decide) rfl (fun ls hl => ?_)
        refine lv_aload_n hx hb dX7_wetted_24 rfl (lv_at hl 0 rfl) ?_
        refine va_get (D := D) (ci := 2) (v := .int 0) (C := RX3) (T := TX3) (N := 4) hx hb hts inlX3 hown hK hP 4 rfl rfl 0 (by decide) (hts _ mw_570) (fun _ h9 => h9) rfl dX7_wetted_25 ?_
        refine lv_if_eq (tgt := 43) hx hb dX7_wetted_28 (by decide) (fun _ => ?_) (fun c9 => absurd c9 (by decide))
        refine lv_bipush (v := (-6)) hx hb dX7_wetted_43 (by decide) ?_
        exact W.iret (v := (-6)) hx hb hr (fun t ht hW => ⟨(-6), rfl, (by (repeat' split) <;> first | rfl | (exfalso; omega)), ht⟩) (fun q h => by cases h) dX7_wetted_45
      · have qc_8 : a = 3 := ti_of (show a.toInt = 3 from c_8)
        refine lv_ni (v := 3) qc_8 ?_
        refine va_aldq hx hb hK hP 1 5 rfl rfl (vp_in_c (by decide)) dX7_wetted_22 ?_
        refine lv_nv (v := .ref (b 3)) (rfl) ?_
        refine lv_astore_n (lv' := [(3, .ref (b 3)), (0, .ref (t 0)), (1, .int a), (2, .int x)]) hx hb dX7_wetted_23 rfl hl (by decide) rfl (fun ls hl => ?_)
        refine lv_aload_n hx hb dX7_wetted_24 rfl (lv_at hl 0 rfl) ?_
        refine va_get (D := D) (ci := 2) (v := .int 0) (C := RX3) (T := TX3) (N := 4) hx hb hts inlX3 hown hK hP 5 rfl rfl 0 (by decide) (hts _ mw_570) (fun _ h9 => h9) rfl dX7_wetted_25 ?_
        refine lv_if_eq (tgt := 43) hx hb dX7_wetted_28 (by decide) (fun _ => ?_) (fun c9 => absurd c9 (by decide))
        refine lv_bipush (v := (-6)) hx hb dX7_wetted_43 (by decide) ?_
        exact W.iret (v := (-6)) hx hb hr (fun t ht hW => ⟨(-6), rfl, (by (repeat' split) <;> first | rfl | (exfalso; omega)), ht⟩) (fun q h => by cases h) dX7_wetted_45
    have hr_3 := hr_3.trans (if_neg hc_4)
    obtain rfl : r_3 = 0 := hr_3
    refine lv_if_ne (tgt := 17) hx hb dX7_wetted_11 (by decide) (fun c9 => absurd c9 (by decide)) (fun _ => ?_)
    refine lv_bipush (v := (-2)) hx hb dX7_wetted_14 (by decide) ?_
    exact W.iret (v := (-2)) hx hb hr (fun t ht hW => ⟨(-2), rfl, (by (repeat' split) <;> first | rfl | (exfalso; omega)), ht⟩) (fun q h => by cases h) dX7_wetted_16
  have hr_1 := hr_1.trans (if_neg hc_2)
  obtain rfl : r_1 = 0 := hr_1
  refine lv_if_eq (tgt := 14) hx hb dX7_wetted_4 (by decide) (fun _ => ?_) (fun c9 => absurd c9 (by decide))
  refine lv_bipush (v := (-2)) hx hb dX7_wetted_14 (by decide) ?_
  exact W.iret (v := (-2)) hx hb hr (fun t ht hW => ⟨(-2), rfl, (by (repeat' split) <;> first | rfl | (exfalso; omega)), ht⟩) (fun q h => by cases h) dX7_wetted_16
set_option maxHeartbeats 4000000 in
set_option maxRecDepth 100000 in
theorem c_T_past (l : Launch) (D : va_G) (k : Nat → ClassId) (t : Nat → Nat) (n : Nat → Nat) (v : Nat → Nat) (d : Nat → Nat) (a : Int32) : Met l yX7_past (Cond.code yX7_past cX7_past 3 (some .int) :: wsL_law) ({ frames := 1, cells := 0, slots := 0, locals := 60 } : Room) (va_Pc [.ref (t 0), .int a] (pr D k [((t 0), .inr (6, [.ref (t 1), .int 0, .ref (n 0), .ref (v 0), .ref (t 2), .ref (t 3), .ref (t 4), .ref (t 5), .ref (d 0), .ref (t 6), .ref (t 7)])), ((t 3), .inl (k 3, 2, .inl (fun _ => 0)))])) (vp_Si (fun rr => rr = if 1 ≤ a.toInt ∧ a.toInt ≤ 3 then (-5) else (-3))) 0 0 (fun _ => False) := by
  refine Met.ofW (cc := cX7_past) (maxL := 3) (ret := (some .int)) (by decide) rfl ?_
  intro p e s m args below meth c s₁ B hml hv
  obtain ⟨rfl, hP, hK⟩ := hv
  have hx := B.exec
  have hb := B.bytes
  have hr := B.returns
  have hts : ∀ w ∈ wsL_law, w.before _ s = true := fun w h => atoms_spec (ws := Cond.code yX7_past cX7_past 3 (some .int) :: wsL_law) B.pre w (List.mem_cons_of_mem _ h)
  have hown : s.vm.findClass RX7 = some m.cls := findClass_of_methodNamed B.named
  have hlocks := B.notSynchronized
  have hP : va_P D vwCl [((t 0), .inr (6, [.ref (t 1), .int 0, .ref (n 0), .ref (v 0), .ref (t 2), .ref (t 3), .ref (t 4), .ref (t 5), .ref (d 0), .ref (t 6), .ref (t 7)])), ((t 3), .inl (k 3, 2, .inl (fun _ => 0)))] s.heap := hP
  have hl := lv_entry ([.ref (t 0), .int a]) (n := 3) (Nat.le_of_ble_eq_true rfl)
  rw [lg_entry_eq]
  generalize (lg_sl ([.ref (t 0), .int a]) ++ List.replicate (3 - (lg_sl ([.ref (t 0), .int a])).length) Slot.unset).toArray = ls at hl ⊢
  have hl : lv_has ls 3 [(0, .ref (t 0)), (1, .int a)] := hl
  refine lv_iload_n hx hb dX7_past_0 rfl (lv_at hl 1 rfl) ?_
  refine lv_iconst (v := 1) hx hb dX7_past_1 (by decide) ?_
  refine lv_icmp_lt (tgt := 10) hx hb dX7_past_2 (by decide) (fun c_1 => ?_) (fun c_1 => ?_)
  · have c_1 : a.toInt < 1 := ti_lt c_1
    refine lv_bipush (v := (-3)) hx hb dX7_past_10 (by decide) ?_
    exact W.iret (v := (-3)) hx hb hr (fun t ht hW => ⟨(-3), rfl, (by (repeat' split) <;> first | rfl | (exfalso; omega)), ht⟩) (fun q h => by cases h) dX7_past_12
  · have c_1 : 1 ≤ a.toInt := ti_nlt c_1
    refine lv_iload_n hx hb dX7_past_5 rfl (lv_at hl 1 rfl) ?_
    refine lv_iconst (v := 3) hx hb dX7_past_6 (by decide) ?_
    refine lv_icmp_le (tgt := 13) hx hb dX7_past_7 (by decide) (fun c_2 => ?_) (fun c_2 => ?_)
    · have c_2 : a.toInt ≤ 3 := ti_le c_2
      refine lv_aload_n hx hb dX7_past_13 rfl (lv_at hl 0 rfl) ?_
      refine kV_i (q0 := 0) (As := []) (rest := []) (cs := [((t 0), .inr (6, [.ref (t 1), .int 0, .ref (n 0), .ref (v 0), .ref (t 2), .ref (t 3), .ref (t 4), .ref (t 5), .ref (d 0), .ref (t 6), .ref (t 7)])), ((t 3), .inl (k 3, 2, .inl (fun _ => 0)))]) ⟨hx, hb, hml, hown, hts⟩ (c_T_pastRefusal l D k _ _ _ _) (gV mw_1043 mw_1044 mw_1045 mw_2 mw_1046) hd_yX7_pastRefusal rfl rfl ⟨Nat.le_of_ble_eq_true rfl, Nat.le_of_ble_eq_true rfl⟩ hK (hP.sub (ws' := [((t 0), .inr (6, [.ref (t 1), .int 0, .ref (n 0), .ref (v 0), .ref (t 2), .ref (t 3), .ref (t 4), .ref (t 5), .ref (d 0), .ref (t 6), .ref (t 7)])), ((t 3), .inl (k 3, 2, .inl (fun _ => 0)))]) [0, 1] rfl) rfl rfl rfl rfl hl.1 rfl (Nat.le_of_ble_eq_true rfl) dX7_past_14 ⟨Nat.le_of_ble_eq_true rfl, Nat.le_of_ble_eq_true rfl⟩ (fun r_3 hr_3 => ?_)
      obtain rfl : r_3 = (-5) := hr_3
      refine lv_istore_n (lv' := [(2, .int (-5)), (0, .ref (t 0)), (1, .int a)]) hx hb dX7_past_17 rfl hl (by decide) rfl (fun ls hl => ?_)
      refine lv_iload_n hx hb dX7_past_18 rfl (lv_at hl 0 rfl) ?_
      refine lv_if_eq (tgt := 24) hx hb dX7_past_19 (by decide) (fun c9 => absurd c9 (by decide)) (fun _ => ?_)
      refine lv_iload_n hx hb dX7_past_22 rfl (lv_at hl 0 rfl) ?_
      exact W.iret (v := (-5)) hx hb hr (fun t ht hW => ⟨(-5), rfl, (by (repeat' split) <;> first | rfl | (exfalso; omega)), ht⟩) (fun q h => by cases h) dX7_past_23
    · have c_2 : 3 < a.toInt := ti_nle c_2
      refine lv_bipush (v := (-3)) hx hb dX7_past_10 (by decide) ?_
      exact W.iret (v := (-3)) hx hb hr (fun t ht hW => ⟨(-3), rfl, (by (repeat' split) <;> first | rfl | (exfalso; omega)), ht⟩) (fun q h => by cases h) dX7_past_12
set_option maxHeartbeats 4000000 in
set_option maxRecDepth 100000 in
theorem c_T_sure (l : Launch) (D : va_G) (k : Nat → ClassId) (t : Nat → Nat) (n : Nat → Nat) (v : Nat → Nat) (d : Nat → Nat) (a : Int32) (x : Int32) : Met l yX7_sure (Cond.code yX7_sure cX7_sure 4 (some .int) :: wsL_law) ({ frames := 1, cells := 0, slots := 0, locals := 60 } : Room) (va_Pc [.ref (t 0), .int a, .int x] (pr D k [((t 0), .inr (6, [.ref (t 1), .int 0, .ref (n 0), .ref (v 0), .ref (t 2), .ref (t 3), .ref (t 4), .ref (t 5), .ref (d 0), .ref (t 6), .ref (t 7)])), ((t 3), .inl (k 3, 2, .inl (fun _ => 0)))])) (vp_Si (fun rr => rr = if (1 ≤ a.toInt ∧ a.toInt ≤ 3) ∧ 0 ≤ x.toInt ∧ x.toInt < a.toInt then (-5) else (-3))) 0 0 (fun _ => False) := by
  refine Met.ofW (cc := cX7_sure) (maxL := 4) (ret := (some .int)) (by decide) rfl ?_
  intro p e s m args below meth c s₁ B hml hv
  obtain ⟨rfl, hP, hK⟩ := hv
  have hx := B.exec
  have hb := B.bytes
  have hr := B.returns
  have hts : ∀ w ∈ wsL_law, w.before _ s = true := fun w h => atoms_spec (ws := Cond.code yX7_sure cX7_sure 4 (some .int) :: wsL_law) B.pre w (List.mem_cons_of_mem _ h)
  have hown : s.vm.findClass RX7 = some m.cls := findClass_of_methodNamed B.named
  have hlocks := B.notSynchronized
  have hP : va_P D vwCl [((t 0), .inr (6, [.ref (t 1), .int 0, .ref (n 0), .ref (v 0), .ref (t 2), .ref (t 3), .ref (t 4), .ref (t 5), .ref (d 0), .ref (t 6), .ref (t 7)])), ((t 3), .inl (k 3, 2, .inl (fun _ => 0)))] s.heap := hP
  have hl := lv_entry ([.ref (t 0), .int a, .int x]) (n := 4) (Nat.le_of_ble_eq_true rfl)
  rw [lg_entry_eq]
  generalize (lg_sl ([.ref (t 0), .int a, .int x]) ++ List.replicate (4 - (lg_sl ([.ref (t 0), .int a, .int x])).length) Slot.unset).toArray = ls at hl ⊢
  have hl : lv_has ls 4 [(0, .ref (t 0)), (1, .int a), (2, .int x)] := hl
  refine lv_iload_n hx hb dX7_sure_0 rfl (lv_at hl 1 rfl) ?_
  refine lv_iconst (v := 1) hx hb dX7_sure_1 (by decide) ?_
  refine lv_icmp_lt (tgt := 19) hx hb dX7_sure_2 (by decide) (fun c_1 => ?_) (fun c_1 => ?_)
  · have c_1 : a.toInt < 1 := ti_lt c_1
    refine lv_bipush (v := (-3)) hx hb dX7_sure_19 (by decide) ?_
    exact W.iret (v := (-3)) hx hb hr (fun t ht hW => ⟨(-3), rfl, (by (repeat' split) <;> first | rfl | (exfalso; omega)), ht⟩) (fun q h => by cases h) dX7_sure_21
  · have c_1 : 1 ≤ a.toInt := ti_nlt c_1
    refine lv_iload_n hx hb dX7_sure_5 rfl (lv_at hl 1 rfl) ?_
    refine lv_iconst (v := 3) hx hb dX7_sure_6 (by decide) ?_
    refine lv_icmp_gt (tgt := 19) hx hb dX7_sure_7 (by decide) (fun c_2 => ?_) (fun c_2 => ?_)
    · have c_2 : 3 < a.toInt := ti_lt c_2
      refine lv_bipush (v := (-3)) hx hb dX7_sure_19 (by decide) ?_
      exact W.iret (v := (-3)) hx hb hr (fun t ht hW => ⟨(-3), rfl, (by (repeat' split) <;> first | rfl | (exfalso; omega)), ht⟩) (fun q h => by cases h) dX7_sure_21
    · have c_2 : a.toInt ≤ 3 := ti_nlt c_2
      refine lv_iload_n hx hb dX7_sure_10 rfl (lv_at hl 2 rfl) ?_
      refine lv_if_lt (tgt := 19) hx hb dX7_sure_11 (by decide) (fun c_3 => ?_) (fun c_3 => ?_)
      · have c_3 : x.toInt < 0 := ti_lt c_3
        refine lv_bipush (v := (-3)) hx hb dX7_sure_19 (by decide) ?_
        exact W.iret (v := (-3)) hx hb hr (fun t ht hW => ⟨(-3), rfl, (by (repeat' split) <;> first | rfl | (exfalso; omega)), ht⟩) (fun q h => by cases h) dX7_sure_21
      · have c_3 : 0 ≤ x.toInt := ti_nlt c_3
        refine lv_iload_n hx hb dX7_sure_14 rfl (lv_at hl 2 rfl) ?_
        refine lv_iload_n hx hb dX7_sure_15 rfl (lv_at hl 1 rfl) ?_
        refine lv_icmp_lt (tgt := 22) hx hb dX7_sure_16 (by decide) (fun c_4 => ?_) (fun c_4 => ?_)
        · have c_4 : x.toInt < a.toInt := ti_lt c_4
          refine lv_aload_n hx hb dX7_sure_22 rfl (lv_at hl 0 rfl) ?_
          refine kV_i (q0 := 0) (As := []) (rest := []) (cs := [((t 0), .inr (6, [.ref (t 1), .int 0, .ref (n 0), .ref (v 0), .ref (t 2), .ref (t 3), .ref (t 4), .ref (t 5), .ref (d 0), .ref (t 6), .ref (t 7)])), ((t 3), .inl (k 3, 2, .inl (fun _ => 0)))]) ⟨hx, hb, hml, hown, hts⟩ (c_T_pastRefusal l D k _ _ _ _) (gV mw_1043 mw_1044 mw_1045 mw_2 mw_1046) hd_yX7_pastRefusal rfl rfl ⟨Nat.le_of_ble_eq_true rfl, Nat.le_of_ble_eq_true rfl⟩ hK (hP.sub (ws' := [((t 0), .inr (6, [.ref (t 1), .int 0, .ref (n 0), .ref (v 0), .ref (t 2), .ref (t 3), .ref (t 4), .ref (t 5), .ref (d 0), .ref (t 6), .ref (t 7)])), ((t 3), .inl (k 3, 2, .inl (fun _ => 0)))]) [0, 1] rfl) rfl rfl rfl rfl hl.1 rfl (Nat.le_of_ble_eq_true rfl) dX7_sure_23 ⟨Nat.le_of_ble_eq_true rfl, Nat.le_of_ble_eq_true rfl⟩ (fun r_5 hr_5 => ?_)
          obtain rfl : r_5 = (-5) := hr_5
          refine lv_istore_n (lv' := [(3, .int (-5)), (0, .ref (t 0)), (1, .int a), (2, .int x)]) hx hb dX7_sure_26 rfl hl (by decide) rfl (fun ls hl => ?_)
          refine lv_iload_n hx hb dX7_sure_27 rfl (lv_at hl 0 rfl) ?_
          refine lv_if_eq (tgt := 33) hx hb dX7_sure_28 (by decide) (fun c9 => absurd c9 (by decide)) (fun _ => ?_)
          refine lv_iload_n hx hb dX7_sure_31 rfl (lv_at hl 0 rfl) ?_
          exact W.iret (v := (-5)) hx hb hr (fun t ht hW => ⟨(-5), rfl, (by (repeat' split) <;> first | rfl | (exfalso; omega)), ht⟩) (fun q h => by cases h) dX7_sure_32
        · have c_4 : a.toInt ≤ x.toInt := ti_nlt c_4
          refine lv_bipush (v := (-3)) hx hb dX7_sure_19 (by decide) ?_
          exact W.iret (v := (-3)) hx hb hr (fun t ht hW => ⟨(-3), rfl, (by (repeat' split) <;> first | rfl | (exfalso; omega)), ht⟩) (fun q h => by cases h) dX7_sure_21
set_option maxHeartbeats 4000000 in
set_option maxRecDepth 100000 in
theorem c_T_causes (l : Launch) (D : va_G) (k : Nat → ClassId) (t : Nat → Nat) (n : Nat → Nat) (v : Nat → Nat) (d : Nat → Nat) (a : Int32) : Met l yX7_causes (Cond.code yX7_causes cX7_causes 4 (some .int) :: wsL_law) ({ frames := 1, cells := 0, slots := 0, locals := 60 } : Room) (va_Pc [.ref (t 0), .int a] (pr D k [((t 0), .inr (6, [.ref (t 1), .int 0, .ref (n 0), .ref (v 0), .ref (t 2), .ref (t 3), .ref (t 4), .ref (t 5), .ref (d 0), .ref (t 6), .ref (t 7)])), ((n 0), .inr (5, [.int 0, .int 0, .int 3, .int 8, .int 4, .int 4, .int 0, .int 0, .int 0, .int 0, .int 0, .ref (n 1), .ref (n 2), .ref (n 3), .ref (n 4), .ref (n 5)]))])) (vp_Si (fun rr => rr = if a.toInt = 0 then 0 else (-3))) 0 0 (fun _ => False) := by
  refine Met.ofW (cc := cX7_causes) (maxL := 4) (ret := (some .int)) (by decide) rfl ?_
  intro p e s m args below meth c s₁ B hml hv
  obtain ⟨rfl, hP, hK⟩ := hv
  have hx := B.exec
  have hb := B.bytes
  have hr := B.returns
  have hts : ∀ w ∈ wsL_law, w.before _ s = true := fun w h => atoms_spec (ws := Cond.code yX7_causes cX7_causes 4 (some .int) :: wsL_law) B.pre w (List.mem_cons_of_mem _ h)
  have hown : s.vm.findClass RX7 = some m.cls := findClass_of_methodNamed B.named
  have hlocks := B.notSynchronized
  have hP : va_P D vwCl [((t 0), .inr (6, [.ref (t 1), .int 0, .ref (n 0), .ref (v 0), .ref (t 2), .ref (t 3), .ref (t 4), .ref (t 5), .ref (d 0), .ref (t 6), .ref (t 7)])), ((n 0), .inr (5, [.int 0, .int 0, .int 3, .int 8, .int 4, .int 4, .int 0, .int 0, .int 0, .int 0, .int 0, .ref (n 1), .ref (n 2), .ref (n 3), .ref (n 4), .ref (n 5)]))] s.heap := hP
  have hl := lv_entry ([.ref (t 0), .int a]) (n := 4) (Nat.le_of_ble_eq_true rfl)
  rw [lg_entry_eq]
  generalize (lg_sl ([.ref (t 0), .int a]) ++ List.replicate (4 - (lg_sl ([.ref (t 0), .int a])).length) Slot.unset).toArray = ls at hl ⊢
  have hl : lv_has ls 4 [(0, .ref (t 0)), (1, .int a)] := hl
  refine lv_iload_n hx hb dX7_causes_0 rfl (lv_at hl 1 rfl) ?_
  refine lv_aload_n hx hb dX7_causes_1 rfl (lv_at hl 0 rfl) ?_
  refine va_get (D := D) (ci := 6) (v := .ref (n 0)) (C := RX7) (T := TX7) (N := 11) hx hb hts inlX7 hown hK hP 0 rfl rfl 2 (by decide) (hts _ mw_20) (fun _ h9 => h9) rfl dX7_causes_2 ?_
  refine kV_i (q0 := 0) (As := []) (rest := [.int a]) (cs := [((n 0), .inr (5, [.int 0, .int 0, .int 3, .int 8, .int 4, .int 4, .int 0, .int 0, .int 0, .int 0, .int 0, .ref (n 1), .ref (n 2), .ref (n 3), .ref (n 4), .ref (n 5)]))]) ⟨hx, hb, hml, hown, hts⟩ (c_W_allRoofs l D k n 0) (gV mw_871 mw_475 mw_476 mw_19 mw_477) hd_yX6_allRoofs rfl rfl ⟨Nat.le_of_ble_eq_true rfl, Nat.le_of_ble_eq_true rfl⟩ hK (hP.sub (ws' := [((n 0), .inr (5, [.int 0, .int 0, .int 3, .int 8, .int 4, .int 4, .int 0, .int 0, .int 0, .int 0, .int 0, .ref (n 1), .ref (n 2), .ref (n 3), .ref (n 4), .ref (n 5)]))]) [1] rfl) rfl rfl rfl rfl hl.1 rfl (Nat.le_of_ble_eq_true rfl) dX7_causes_5 ⟨Nat.le_of_ble_eq_true rfl, Nat.le_of_ble_eq_true rfl⟩ (fun r_1 hr_1 => ?_)
  obtain rfl : r_1 = 0 := hr_1
  refine lv_iconst (v := (-1)) hx hb dX7_causes_8 (by decide) ?_
  refine lv_ixor hx hb dX7_causes_9 ?_
  refine lv_ni (v := (-1)) (by decide) ?_
  refine lv_iand hx hb dX7_causes_10 ?_
  refine lv_ni (v := a) (and_m1 _) ?_
  refine lv_if_eq (tgt := 17) hx hb dX7_causes_11 (by decide) (fun c_2 => ?_) (fun c_2 => ?_)
  · have c_2 : a.toInt = 0 := ti_eq c_2
    have qc_2 : a = 0 := ti_of (show a.toInt = 0 from by omega)
    refine lv_aload_n hx hb dX7_causes_17 rfl (lv_at hl 0 rfl) ?_
    refine va_get (D := D) (ci := 6) (v := .ref (n 0)) (C := RX7) (T := TX7) (N := 11) hx hb hts inlX7 hown hK hP 0 rfl rfl 2 (by decide) (hts _ mw_20) (fun _ h9 => h9) rfl dX7_causes_18 ?_
    refine kV_i (q0 := 0) (As := []) (rest := []) (cs := [((n 0), .inr (5, [.int 0, .int 0, .int 3, .int 8, .int 4, .int 4, .int 0, .int 0, .int 0, .int 0, .int 0, .ref (n 1), .ref (n 2), .ref (n 3), .ref (n 4), .ref (n 5)]))]) ⟨hx, hb, hml, hown, hts⟩ (c_W_allRoofs l D k n 0) (gV mw_871 mw_475 mw_476 mw_19 mw_477) hd_yX6_allRoofs rfl rfl ⟨Nat.le_of_ble_eq_true rfl, Nat.le_of_ble_eq_true rfl⟩ hK (hP.sub (ws' := [((n 0), .inr (5, [.int 0, .int 0, .int 3, .int 8, .int 4, .int 4, .int 0, .int 0, .int 0, .int 0, .int 0, .ref (n 1), .ref (n 2), .ref (n 3), .ref (n 4), .ref (n 5)]))]) [1] rfl) rfl rfl rfl rfl hl.1 rfl (Nat.le_of_ble_eq_true rfl) dX7_causes_21 ⟨Nat.le_of_ble_eq_true rfl, Nat.le_of_ble_eq_true rfl⟩ (fun r_3 hr_3 => ?_)
    obtain rfl : r_3 = 0 := hr_3
    refine lv_istore_n (lv' := [(2, .int 0), (0, .ref (t 0)), (1, .int a)]) hx hb dX7_causes_24 rfl hl (by decide) rfl (fun ls hl => ?_)
    refine lv_iconst (v := 0) hx hb dX7_causes_25 (by decide) ?_
    refine lv_istore_n (lv' := [(3, .int 0), (2, .int 0), (0, .ref (t 0)), (1, .int a)]) hx hb dX7_causes_26 rfl hl (by decide) rfl (fun ls hl => ?_)
    refine lv_iload_n hx hb dX7_causes_27 rfl (lv_at hl 0 rfl) ?_
    refine lv_aload_n hx hb dX7_causes_28 rfl (lv_at hl 2 rfl) ?_
    refine va_get (D := D) (ci := 6) (v := .ref (n 0)) (C := RX7) (T := TX7) (N := 11) hx hb hts inlX7 hown hK hP 0 rfl rfl 2 (by decide) (hts _ mw_20) (fun _ h9 => h9) rfl dX7_causes_29 ?_
    refine va_get (D := D) (ci := 5) (v := .int 0) (C := RX6) (T := TX6) (N := 16) hx hb hts inlX6 hown hK hP 1 rfl rfl 0 (by decide) (hts _ mw_622) (fun _ h9 => h9) rfl dX7_causes_32 ?_
    refine lv_icmp_ge (tgt := 64) hx hb dX7_causes_35 (by decide) (fun _ => ?_) (fun c9 => absurd c9 (by decide))
    refine lv_iload_n hx hb dX7_causes_64 rfl (lv_at hl 1 rfl) ?_
    exact W.iret (v := 0) hx hb hr (fun t ht hW => ⟨0, rfl, (by (repeat' split) <;> first | rfl | (exfalso; omega)), ht⟩) (fun q h => by cases h) dX7_causes_65
  · have c_2 : a.toInt ≠ 0 := ti_ne c_2
    refine lv_bipush (v := (-3)) hx hb dX7_causes_14 (by decide) ?_
    exact W.iret (v := (-3)) hx hb hr (fun t ht hW => ⟨(-3), rfl, (by (repeat' split) <;> first | rfl | (exfalso; omega)), ht⟩) (fun q h => by cases h) dX7_causes_16
set_option maxHeartbeats 4000000 in
set_option maxRecDepth 100000 in
theorem c_T_look (l : Launch) (D : va_G) (k : Nat → ClassId) (t : Nat → Nat) (n : Nat → Nat) (v : Nat → Nat) (d : Nat → Nat) : Met l yX7_look (Cond.code yX7_look cX7_look 8 (some .int) :: wsL_law) ({ frames := 1, cells := 0, slots := 0, locals := 60 } : Room) (va_Pc [.ref (t 0)] (pr D k [((t 0), .inr (6, [.ref (t 1), .int 0, .ref (n 0), .ref (v 0), .ref (t 2), .ref (t 3), .ref (t 4), .ref (t 5), .ref (d 0), .ref (t 6), .ref (t 7)])), ((n 0), .inr (5, [.int 0, .int 0, .int 3, .int 8, .int 4, .int 4, .int 0, .int 0, .int 0, .int 0, .int 0, .ref (n 1), .ref (n 2), .ref (n 3), .ref (n 4), .ref (n 5)]))])) (vp_Si (fun rr => rr = (-1))) 0 0 (fun _ => False) := by
  refine Met.ofW (cc := cX7_look) (maxL := 8) (ret := (some .int)) (by decide) rfl ?_
  intro p e s m args below meth c s₁ B hml hv
  obtain ⟨rfl, hP, hK⟩ := hv
  have hx := B.exec
  have hb := B.bytes
  have hr := B.returns
  have hts : ∀ w ∈ wsL_law, w.before _ s = true := fun w h => atoms_spec (ws := Cond.code yX7_look cX7_look 8 (some .int) :: wsL_law) B.pre w (List.mem_cons_of_mem _ h)
  have hown : s.vm.findClass RX7 = some m.cls := findClass_of_methodNamed B.named
  have hlocks := B.notSynchronized
  have hP : va_P D vwCl [((t 0), .inr (6, [.ref (t 1), .int 0, .ref (n 0), .ref (v 0), .ref (t 2), .ref (t 3), .ref (t 4), .ref (t 5), .ref (d 0), .ref (t 6), .ref (t 7)])), ((n 0), .inr (5, [.int 0, .int 0, .int 3, .int 8, .int 4, .int 4, .int 0, .int 0, .int 0, .int 0, .int 0, .ref (n 1), .ref (n 2), .ref (n 3), .ref (n 4), .ref (n 5)]))] s.heap := hP
  have hl := lv_entry ([.ref (t 0)]) (n := 8) (Nat.le_of_ble_eq_true rfl)
  rw [lg_entry_eq]
  generalize (lg_sl ([.ref (t 0)]) ++ List.replicate (8 - (lg_sl ([.ref (t 0)])).length) Slot.unset).toArray = ls at hl ⊢
  have hl : lv_has ls 8 [(0, .ref (t 0))] := hl
  refine lv_iconst (v := 0) hx hb dX7_look_0 (by decide) ?_
  refine lv_istore_n (lv' := [(1, .int 0), (0, .ref (t 0))]) hx hb dX7_look_1 rfl hl (by decide) rfl (fun ls hl => ?_)
  refine lv_iconst (v := 0) hx hb dX7_look_2 (by decide) ?_
  refine lv_istore_n (lv' := [(2, .int 0), (1, .int 0), (0, .ref (t 0))]) hx hb dX7_look_3 rfl hl (by decide) rfl (fun ls hl => ?_)
  refine lv_iload_n hx hb dX7_look_4 rfl (lv_at hl 0 rfl) ?_
  refine lv_aload_n hx hb dX7_look_5 rfl (lv_at hl 2 rfl) ?_
  refine va_get (D := D) (ci := 6) (v := .ref (n 0)) (C := RX7) (T := TX7) (N := 11) hx hb hts inlX7 hown hK hP 0 rfl rfl 2 (by decide) (hts _ mw_20) (fun _ h9 => h9) rfl dX7_look_6 ?_
  refine va_get (D := D) (ci := 5) (v := .int 0) (C := RX6) (T := TX6) (N := 16) hx hb hts inlX6 hown hK hP 1 rfl rfl 0 (by decide) (hts _ mw_622) (fun _ h9 => h9) rfl dX7_look_9 ?_
  refine lv_icmp_ge (tgt := 32) hx hb dX7_look_12 (by decide) (fun _ => ?_) (fun c9 => absurd c9 (by decide))
  refine lv_iload_n hx hb dX7_look_32 rfl (lv_at hl 1 rfl) ?_
  refine kS_i (As := [.int 0]) (rest := []) (cs := []) ⟨hx, hb, hml, hown, hts⟩ (c_J_bitCount0 l D k ) (gS mw_724 mw_725 mw_726 mw_727) hd_yJ6_bitCount_0f7a4 rfl rfl ⟨Nat.le_of_ble_eq_true rfl, Nat.le_of_ble_eq_true rfl⟩ hK (hP.sub (ws' := []) [] rfl) rfl hl.1 rfl (Nat.le_of_ble_eq_true rfl) dX7_look_33 ⟨Nat.le_of_ble_eq_true rfl, Nat.le_of_ble_eq_true rfl⟩ (fun r_1 hr_1 => ?_)
  obtain rfl : r_1 = 0 := hr_1
  refine lv_istore_n (lv' := [(2, .int 0), (1, .int 0), (0, .ref (t 0))]) hx hb dX7_look_36 rfl hl (by decide) rfl (fun ls hl => ?_)
  refine lv_iload_n hx hb dX7_look_37 rfl (lv_at hl 0 rfl) ?_
  refine lv_iconst (v := 2) hx hb dX7_look_38 (by decide) ?_
  refine lv_icmp_ge (tgt := 44) hx hb dX7_look_39 (by decide) (fun c9 => absurd c9 (by decide)) (fun _ => ?_)
  refine lv_iconst (v := (-1)) hx hb dX7_look_42 (by decide) ?_
  exact W.iret (v := (-1)) hx hb hr (fun t ht hW => ⟨(-1), rfl, rfl, ht⟩) (fun q h => by cases h) dX7_look_43
set_option maxHeartbeats 4000000 in
set_option maxRecDepth 100000 in
theorem c_T_numbers (l : Launch) (D : va_G) (k : Nat → ClassId) (t : Nat → Nat) (n : Nat → Nat) (v : Nat → Nat) (d : Nat → Nat) (b : Nat → Nat) (a : Int32) (x : Int32) (z : Int32) (sz : Nat) : Met l yX7_numbers (Cond.code yX7_numbers cX7_numbers 4 (some .int) :: wsL_law) ({ frames := 1, cells := 0, slots := 0, locals := 60 } : Room) (va_Pc [.ref (t 0), .int a, .int x, .int z] (pu D k sz [((t 0), .inr (6, [.ref (t 1), .int 0, .ref (n 0), .ref (v 0), .ref (t 2), .ref (t 3), .ref (t 4), .ref (t 5), .ref (d 0), .ref (t 6), .ref (t 7)])), ((t 4), .inl (k 5, 4, .inr (.inr (.inr (.inr (va_rs [(b 0), (b 1), (b 2), (b 3)])))))), ((b 0), .inr (2, [.int 0, .int 0, .ref (b 4), .int 0])), ((b 1), .inr (2, [.int 0, .int 0, .ref (b 5), .int 0])), ((b 2), .inr (2, [.int 0, .int 0, .ref (b 6), .int 0])), ((b 3), .inr (2, [.int 0, .int 0, .ref (b 7), .int 0])), ((b 4), .inl (k 1, 40, .inr (.inl (fun _ => 0)))), ((b 5), .inl (k 1, 40, .inr (.inl (fun _ => 0)))), ((b 6), .inl (k 1, 40, .inr (.inl (fun _ => 0)))), ((b 7), .inl (k 1, 40, .inr (.inl (fun _ => 0))))])) (va_Qi (fun rr (uu : Unit) => rr = if ¬ ((0 ≤ a.toInt ∧ a.toInt ≤ 3) ∧ 0 ≤ x.toInt ∧ x.toInt ≤ 3) then (-2) else if 0 ≤ z.toInt ∧ z.toInt ≤ 40 then 0 else (-3)) (qu D (va_A [((t 0), .inr (6, [.ref (t 1), .int 0, .ref (n 0), .ref (v 0), .ref (t 2), .ref (t 3), .ref (t 4), .ref (t 5), .ref (d 0), .ref (t 6), .ref (t 7)])), ((t 4), .inl (k 5, 4, .inr (.inr (.inr (.inr (va_rs [(b 0), (b 1), (b 2), (b 3)])))))), ((b 0), .inr (2, [.int 0, .int 0, .ref (b 4), .int 0])), ((b 1), .inr (2, [.int 0, .int 0, .ref (b 5), .int 0])), ((b 2), .inr (2, [.int 0, .int 0, .ref (b 6), .int 0])), ((b 3), .inr (2, [.int 0, .int 0, .ref (b 7), .int 0])), ((b 4), .inl (k 1, 40, .inr (.inl (fun _ => 0)))), ((b 5), .inl (k 1, 40, .inr (.inl (fun _ => 0)))), ((b 6), .inl (k 1, 40, .inr (.inl (fun _ => 0)))), ((b 7), .inl (k 1, 40, .inr (.inl (fun _ => 0))))] sz) (fun uu : Unit => [])) (va_A [((t 0), .inr (6, [.ref (t 1), .int 0, .ref (n 0), .ref (v 0), .ref (t 2), .ref (t 3), .ref (t 4), .ref (t 5), .ref (d 0), .ref (t 6), .ref (t 7)])), ((t 4), .inl (k 5, 4, .inr (.inr (.inr (.inr (va_rs [(b 0), (b 1), (b 2), (b 3)])))))), ((b 0), .inr (2, [.int 0, .int 0, .ref (b 4), .int 0])), ((b 1), .inr (2, [.int 0, .int 0, .ref (b 5), .int 0])), ((b 2), .inr (2, [.int 0, .int 0, .ref (b 6), .int 0])), ((b 3), .inr (2, [.int 0, .int 0, .ref (b 7), .int 0])), ((b 4), .inl (k 1, 40, .inr (.inl (fun _ => 0)))), ((b 5), .inl (k 1, 40, .inr (.inl (fun _ => 0)))), ((b 6), .inl (k 1, 40, .inr (.inl (fun _ => 0)))), ((b 7), .inl (k 1, 40, .inr (.inl (fun _ => 0))))] sz)) 0 0 (va_A [((t 0), .inr (6, [.ref (t 1), .int 0, .ref (n 0), .ref (v 0), .ref (t 2), .ref (t 3), .ref (t 4), .ref (t 5), .ref (d 0), .ref (t 6), .ref (t 7)])), ((t 4), .inl (k 5, 4, .inr (.inr (.inr (.inr (va_rs [(b 0), (b 1), (b 2), (b 3)])))))), ((b 0), .inr (2, [.int 0, .int 0, .ref (b 4), .int 0])), ((b 1), .inr (2, [.int 0, .int 0, .ref (b 5), .int 0])), ((b 2), .inr (2, [.int 0, .int 0, .ref (b 6), .int 0])), ((b 3), .inr (2, [.int 0, .int 0, .ref (b 7), .int 0])), ((b 4), .inl (k 1, 40, .inr (.inl (fun _ => 0)))), ((b 5), .inl (k 1, 40, .inr (.inl (fun _ => 0)))), ((b 6), .inl (k 1, 40, .inr (.inl (fun _ => 0)))), ((b 7), .inl (k 1, 40, .inr (.inl (fun _ => 0))))] sz) := by
  refine Met.ofW (cc := cX7_numbers) (maxL := 4) (ret := (some .int)) (by decide) rfl ?_
  intro p e s m args below meth c s₁ B hml hv
  obtain ⟨rfl, hsz, hP, hK, hD0⟩ := hv
  have hx := B.exec
  have hb := B.bytes
  have hr := B.returns
  have hts : ∀ w ∈ wsL_law, w.before _ s = true := fun w h => atoms_spec (ws := Cond.code yX7_numbers cX7_numbers 4 (some .int) :: wsL_law) B.pre w (List.mem_cons_of_mem _ h)
  have hown : s.vm.findClass RX7 = some m.cls := findClass_of_methodNamed B.named
  have hlocks := B.notSynchronized
  subst hsz
  have hD := hD0.self (sz := s.heap.size)
  generalize hAe : va_A [((t 0), .inr (6, [.ref (t 1), .int 0, .ref (n 0), .ref (v 0), .ref (t 2), .ref (t 3), .ref (t 4), .ref (t 5), .ref (d 0), .ref (t 6), .ref (t 7)])), ((t 4), .inl (k 5, 4, .inr (.inr (.inr (.inr (va_rs [(b 0), (b 1), (b 2), (b 3)])))))), ((b 0), .inr (2, [.int 0, .int 0, .ref (b 4), .int 0])), ((b 1), .inr (2, [.int 0, .int 0, .ref (b 5), .int 0])), ((b 2), .inr (2, [.int 0, .int 0, .ref (b 6), .int 0])), ((b 3), .inr (2, [.int 0, .int 0, .ref (b 7), .int 0])), ((b 4), .inl (k 1, 40, .inr (.inl (fun _ => 0)))), ((b 5), .inl (k 1, 40, .inr (.inl (fun _ => 0)))), ((b 6), .inl (k 1, 40, .inr (.inl (fun _ => 0)))), ((b 7), .inl (k 1, 40, .inr (.inl (fun _ => 0))))] s.heap.size = A at hD ⊢
  have hA : ∀ q : Nat, s.heap.size ≤ q → A q := fun q h => by rw [← hAe]; exact Or.inr h
  have hS : va_S A s.heap s.heap [] := va_S.rf
  have hP : va_P D vwCl [((t 0), .inr (6, [.ref (t 1), .int 0, .ref (n 0), .ref (v 0), .ref (t 2), .ref (t 3), .ref (t 4), .ref (t 5), .ref (d 0), .ref (t 6), .ref (t 7)])), ((t 4), .inl (k 5, 4, .inr (.inr (.inr (.inr (va_rs [(b 0), (b 1), (b 2), (b 3)])))))), ((b 0), .inr (2, [.int 0, .int 0, .ref (b 4), .int 0])), ((b 1), .inr (2, [.int 0, .int 0, .ref (b 5), .int 0])), ((b 2), .inr (2, [.int 0, .int 0, .ref (b 6), .int 0])), ((b 3), .inr (2, [.int 0, .int 0, .ref (b 7), .int 0])), ((b 4), .inl (k 1, 40, .inr (.inl (fun _ => 0)))), ((b 5), .inl (k 1, 40, .inr (.inl (fun _ => 0)))), ((b 6), .inl (k 1, 40, .inr (.inl (fun _ => 0)))), ((b 7), .inl (k 1, 40, .inr (.inl (fun _ => 0))))] s.heap := hP
  have hl := lv_entry ([.ref (t 0), .int a, .int x, .int z]) (n := 4) (Nat.le_of_ble_eq_true rfl)
  rw [lg_entry_eq]
  generalize (lg_sl ([.ref (t 0), .int a, .int x, .int z]) ++ List.replicate (4 - (lg_sl ([.ref (t 0), .int a, .int x, .int z])).length) Slot.unset).toArray = ls at hl ⊢
  have hl : lv_has ls 4 [(0, .ref (t 0)), (1, .int a), (2, .int x), (3, .int z)] := hl
  refine lv_iload_n hx hb dX7_numbers_0 rfl (lv_at hl 1 rfl) ?_
  refine kS_i (As := [.int a]) (rest := []) (cs := []) ⟨hx, hb, hml, hown, hts⟩ (c_T_isRow l D k a) (gS mw_573 mw_574 mw_2 mw_575) hd_yX7_isRow rfl rfl ⟨Nat.le_of_ble_eq_true rfl, Nat.le_of_ble_eq_true rfl⟩ hK (hP.sub (ws' := []) [] rfl) rfl hl.1 rfl (Nat.le_of_ble_eq_true rfl) dX7_numbers_1 ⟨Nat.le_of_ble_eq_true rfl, Nat.le_of_ble_eq_true rfl⟩ (fun r_1 hr_1 => ?_)
  by_cases hc_2 : 0 ≤ a.toInt ∧ a.toInt ≤ 3
  · obtain rfl : r_1 = 1 := hr_1.trans (if_pos hc_2)
    refine lv_if_eq (tgt := 16) hx hb dX7_numbers_4 (by decide) (fun c9 => absurd c9 (by decide)) (fun _ => ?_)
    refine lv_iload_n hx hb dX7_numbers_7 rfl (lv_at hl 2 rfl) ?_
    refine lv_if_lt (tgt := 16) hx hb dX7_numbers_8 (by decide) (fun c_3 => ?_) (fun c_3 => ?_)
    · have c_3 : x.toInt < 0 := ti_lt c_3
      refine lv_bipush (v := (-2)) hx hb dX7_numbers_16 (by decide) ?_
      have hP9 := hP.sub (ws' := []) [] rfl
      have hD9 := hD.sub (ws' := []) [] (by decide) rfl
      exact W.iret (v := (-2)) hx hb hr (fun t ht hW => ⟨⟨(-2), (), rfl, (by (repeat' split) <;> first | rfl | (exfalso; omega)), by rw [ht]; exact hP9, hD9⟩, hS.F ht⟩) hS.2.2 dX7_numbers_18
    · have c_3 : 0 ≤ x.toInt := ti_nlt c_3
      refine lv_iload_n hx hb dX7_numbers_11 rfl (lv_at hl 2 rfl) ?_
      refine lv_iconst (v := 3) hx hb dX7_numbers_12 (by decide) ?_
      refine lv_icmp_le (tgt := 19) hx hb dX7_numbers_13 (by decide) (fun c_4 => ?_) (fun c_4 => ?_)
      · have c_4 : x.toInt ≤ 3 := ti_le c_4
        refine lv_iload_n hx hb dX7_numbers_19 rfl (lv_at hl 3 rfl) ?_
        refine lv_if_lt (tgt := 29) hx hb dX7_numbers_20 (by decide) (fun c_5 => ?_) (fun c_5 => ?_)
        · have c_5 : z.toInt < 0 := ti_lt c_5
          refine lv_bipush (v := (-3)) hx hb dX7_numbers_29 (by decide) ?_
          have hP9 := hP.sub (ws' := []) [] rfl
          have hD9 := hD.sub (ws' := []) [] (by decide) rfl
          exact W.iret (v := (-3)) hx hb hr (fun t ht hW => ⟨⟨(-3), (), rfl, (by (repeat' split) <;> first | rfl | (exfalso; omega)), by rw [ht]; exact hP9, hD9⟩, hS.F ht⟩) hS.2.2 dX7_numbers_31
        · have c_5 : 0 ≤ z.toInt := ti_nlt c_5
          refine lv_iload_n hx hb dX7_numbers_23 rfl (lv_at hl 3 rfl) ?_
          refine lv_bipush (v := 40) hx hb dX7_numbers_24 (by decide) ?_
          refine lv_icmp_le (tgt := 32) hx hb dX7_numbers_26 (by decide) (fun c_6 => ?_) (fun c_6 => ?_)
          · have c_6 : z.toInt ≤ 40 := ti_le c_6
            refine lv_aload_n hx hb dX7_numbers_32 rfl (lv_at hl 0 rfl) ?_
            refine va_get (D := D) (ci := 6) (v := .ref (t 4)) (C := RX7) (T := TX7) (N := 11) hx hb hts inlX7 hown hK hP 0 rfl rfl 6 (by decide) (hts _ mw_26) (fun _ h9 => h9) rfl dX7_numbers_33 ?_
            refine lv_iload_n hx hb dX7_numbers_36 rfl (lv_at hl 1 rfl) ?_
            rcases (show a.toInt = 0 ∨ a.toInt = 1 ∨ a.toInt = 2 ∨ a.toInt = 3 from by omega) with c_7 | c_8 | c_9 | c_10
            · have qc_7 : a = 0 := ti_of (show a.toInt = 0 from c_7)
              refine lv_ni (v := 0) qc_7 ?_
              refine va_aldq hx hb hK hP 1 5 rfl rfl (vp_in_c (by decide)) dX7_numbers_37 ?_
              refine lv_nv (v := .ref (b 0)) (rfl) ?_
              refine lv_iload_n hx hb dX7_numbers_38 rfl (lv_at hl 2 rfl) ?_
              refine lv_iload_n hx hb dX7_numbers_39 rfl (lv_at hl 3 rfl) ?_
              refine kV_uv (q0 := 0) (As := [.int x, .int z]) (rest := []) (wc := [((b 0), .inr (2, [.int 0, .int 0, .ref (b 4), .int 0])), ((b 4), .inl (k 1, 40, .inr (.inl (fun _ => 0))))]) (wr := [((t 0), .inr (6, [.ref (t 1), .int 0, .ref (n 0), .ref (v 0), .ref (t 2), .ref (t 3), .ref (t 4), .ref (t 5), .ref (d 0), .ref (t 6), .ref (t 7)])), ((t 4), .inl (k 5, 4, .inr (.inr (.inr (.inr (va_rs [(b 0), (b 1), (b 2), (b 3)])))))), ((b 1), .inr (2, [.int 0, .int 0, .ref (b 5), .int 0])), ((b 2), .inr (2, [.int 0, .int 0, .ref (b 6), .int 0])), ((b 3), .inr (2, [.int 0, .int 0, .ref (b 7), .int 0])), ((b 5), .inl (k 1, 40, .inr (.inl (fun _ => 0)))), ((b 6), .inl (k 1, 40, .inr (.inl (fun _ => 0)))), ((b 7), .inl (k 1, 40, .inr (.inl (fun _ => 0))))]) ⟨hx, hb, hml, hown, hts⟩ (c_N_begin l D k (b 0) (b 4) x z _) (gV mw_1129 mw_1130 mw_1131 mw_42 mw_1132) hd_yX3_begin rfl rfl ⟨Nat.le_of_ble_eq_true rfl, Nat.le_of_ble_eq_true rfl⟩ hK hP hD hS hA [2, 6] [0, 1, 3, 4, 5, 7, 8, 9] rfl rfl (by decide) (by decide) (by decide) rfl rfl rfl rfl hl.1 rfl (Nat.le_of_ble_eq_true rfl) dX7_numbers_40 ⟨Nat.le_of_ble_eq_true rfl, Nat.le_of_ble_eq_true rfl⟩ (fun u_12 H locs hw hP hD hS => ?_)
              have hP : va_P D vwCl [((t 0), .inr (6, [.ref (t 1), .int 0, .ref (n 0), .ref (v 0), .ref (t 2), .ref (t 3), .ref (t 4), .ref (t 5), .ref (d 0), .ref (t 6), .ref (t 7)])), ((t 4), .inl (k 5, 4, .inr (.inr (.inr (.inr (va_rs [(b 0), (b 1), (b 2), (b 3)])))))), ((b 1), .inr (2, [.int 0, .int 0, .ref (b 5), .int 0])), ((b 2), .inr (2, [.int 0, .int 0, .ref (b 6), .int 0])), ((b 3), .inr (2, [.int 0, .int 0, .ref (b 7), .int 0])), ((b 5), .inl (k 1, 40, .inr (.inl (fun _ => 0)))), ((b 6), .inl (k 1, 40, .inr (.inl (fun _ => 0)))), ((b 7), .inl (k 1, 40, .inr (.inl (fun _ => 0)))), ((b 0), .inr (2, [.int 1, .int z, .ref (b 4), .int x])), ((b 4), .inl (k 1, 40, .inr (.inl (fun _ => 0))))] H := hP
              have hD : va_D A [((t 0), .inr (6, [.ref (t 1), .int 0, .ref (n 0), .ref (v 0), .ref (t 2), .ref (t 3), .ref (t 4), .ref (t 5), .ref (d 0), .ref (t 6), .ref (t 7)])), ((t 4), .inl (k 5, 4, .inr (.inr (.inr (.inr (va_rs [(b 0), (b 1), (b 2), (b 3)])))))), ((b 1), .inr (2, [.int 0, .int 0, .ref (b 5), .int 0])), ((b 2), .inr (2, [.int 0, .int 0, .ref (b 6), .int 0])), ((b 3), .inr (2, [.int 0, .int 0, .ref (b 7), .int 0])), ((b 5), .inl (k 1, 40, .inr (.inl (fun _ => 0)))), ((b 6), .inl (k 1, 40, .inr (.inl (fun _ => 0)))), ((b 7), .inl (k 1, 40, .inr (.inl (fun _ => 0)))), ((b 0), .inr (2, [.int 1, .int z, .ref (b 4), .int x])), ((b 4), .inl (k 1, 40, .inr (.inl (fun _ => 0))))] := hD
              refine lv_iconst (v := 0) hx hb dX7_numbers_43 (by decide) ?_
              have hP9 := hP.sub (ws' := []) [] rfl
              have hD9 := hD.sub (ws' := []) [] (by decide) rfl
              exact W.iret (v := 0) hx hb hr (fun t ht hW => ⟨⟨0, (), rfl, (by (repeat' split) <;> first | rfl | (exfalso; omega)), by rw [ht]; exact hP9, hD9⟩, hS.F ht⟩) hS.2.2 dX7_numbers_44
            · have qc_8 : a = 1 := ti_of (show a.toInt = 1 from c_8)
              refine lv_ni (v := 1) qc_8 ?_
              refine va_aldq hx hb hK hP 1 5 rfl rfl (vp_in_c (by decide)) dX7_numbers_37 ?_
              refine lv_nv (v := .ref (b 1)) (rfl) ?_
              refine lv_iload_n hx hb dX7_numbers_38 rfl (lv_at hl 2 rfl) ?_
              refine lv_iload_n hx hb dX7_numbers_39 rfl (lv_at hl 3 rfl) ?_
              refine kV_uv (q0 := 0) (As := [.int x, .int z]) (rest := []) (wc := [((b 1), .inr (2, [.int 0, .int 0, .ref (b 5), .int 0])), ((b 5), .inl (k 1, 40, .inr (.inl (fun _ => 0))))]) (wr := [((t 0), .inr (6, [.ref (t 1), .int 0, .ref (n 0), .ref (v 0), .ref (t 2), .ref (t 3), .ref (t 4), .ref (t 5), .ref (d 0), .ref (t 6), .ref (t 7)])), ((t 4), .inl (k 5, 4, .inr (.inr (.inr (.inr (va_rs [(b 0), (b 1), (b 2), (b 3)])))))), ((b 0), .inr (2, [.int 0, .int 0, .ref (b 4), .int 0])), ((b 2), .inr (2, [.int 0, .int 0, .ref (b 6), .int 0])), ((b 3), .inr (2, [.int 0, .int 0, .ref (b 7), .int 0])), ((b 4), .inl (k 1, 40, .inr (.inl (fun _ => 0)))), ((b 6), .inl (k 1, 40, .inr (.inl (fun _ => 0)))), ((b 7), .inl (k 1, 40, .inr (.inl (fun _ => 0))))]) ⟨hx, hb, hml, hown, hts⟩ (c_N_begin l D k (b 1) (b 5) x z _) (gV mw_1129 mw_1130 mw_1131 mw_42 mw_1132) hd_yX3_begin rfl rfl ⟨Nat.le_of_ble_eq_true rfl, Nat.le_of_ble_eq_true rfl⟩ hK hP hD hS hA [3, 7] [0, 1, 2, 4, 5, 6, 8, 9] rfl rfl (by decide) (by decide) (by decide) rfl rfl rfl rfl hl.1 rfl (Nat.le_of_ble_eq_true rfl) dX7_numbers_40 ⟨Nat.le_of_ble_eq_true rfl, Nat.le_of_ble_eq_true rfl⟩ (fun u_14 H locs hw hP hD hS => ?_)
              have hP : va_P D vwCl [((t 0), .inr (6, [.ref (t 1), .int 0, .ref (n 0), .ref (v 0), .ref (t 2), .ref (t 3), .ref (t 4), .ref (t 5), .ref (d 0), .ref (t 6), .ref (t 7)])), ((t 4), .inl (k 5, 4, .inr (.inr (.inr (.inr (va_rs [(b 0), (b 1), (b 2), (b 3)])))))), ((b 0), .inr (2, [.int 0, .int 0, .ref (b 4), .int 0])), ((b 2), .inr (2, [.int 0, .int 0, .ref (b 6), .int 0])), ((b 3), .inr (2, [.int 0, .int 0, .ref (b 7), .int 0])), ((b 4), .inl (k 1, 40, .inr (.inl (fun _ => 0)))), ((b 6), .inl (k 1, 40, .inr (.inl (fun _ => 0)))), ((b 7), .inl (k 1, 40, .inr (.inl (fun _ => 0)))), ((b 1), .inr (2, [.int 1, .int z, .ref (b 5), .int x])), ((b 5), .inl (k 1, 40, .inr (.inl (fun _ => 0))))] H := hP
              have hD : va_D A [((t 0), .inr (6, [.ref (t 1), .int 0, .ref (n 0), .ref (v 0), .ref (t 2), .ref (t 3), .ref (t 4), .ref (t 5), .ref (d 0), .ref (t 6), .ref (t 7)])), ((t 4), .inl (k 5, 4, .inr (.inr (.inr (.inr (va_rs [(b 0), (b 1), (b 2), (b 3)])))))), ((b 0), .inr (2, [.int 0, .int 0, .ref (b 4), .int 0])), ((b 2), .inr (2, [.int 0, .int 0, .ref (b 6), .int 0])), ((b 3), .inr (2, [.int 0, .int 0, .ref (b 7), .int 0])), ((b 4), .inl (k 1, 40, .inr (.inl (fun _ => 0)))), ((b 6), .inl (k 1, 40, .inr (.inl (fun _ => 0)))), ((b 7), .inl (k 1, 40, .inr (.inl (fun _ => 0)))), ((b 1), .inr (2, [.int 1, .int z, .ref (b 5), .int x])), ((b 5), .inl (k 1, 40, .inr (.inl (fun _ => 0))))] := hD
              refine lv_iconst (v := 0) hx hb dX7_numbers_43 (by decide) ?_
              have hP9 := hP.sub (ws' := []) [] rfl
              have hD9 := hD.sub (ws' := []) [] (by decide) rfl
              exact W.iret (v := 0) hx hb hr (fun t ht hW => ⟨⟨0, (), rfl, (by (repeat' split) <;> first | rfl | (exfalso; omega)), by rw [ht]; exact hP9, hD9⟩, hS.F ht⟩) hS.2.2 dX7_numbers_44
            · have qc_9 : a = 2 := ti_of (show a.toInt = 2 from c_9)
              refine lv_ni (v := 2) qc_9 ?_
              refine va_aldq hx hb hK hP 1 5 rfl rfl (vp_in_c (by decide)) dX7_numbers_37 ?_
              refine lv_nv (v := .ref (b 2)) (rfl) ?_
              refine lv_iload_n hx hb dX7_numbers_38 rfl (lv_at hl 2 rfl) ?_
              refine lv_iload_n hx hb dX7_numbers_39 rfl (lv_at hl 3 rfl) ?_
              refine kV_uv (q0 := 0) (As := [.int x, .int z]) (rest := []) (wc := [((b 2), .inr (2, [.int 0, .int 0, .ref (b 6), .int 0])), ((b 6), .inl (k 1, 40, .inr (.inl (fun _ => 0))))]) (wr := [((t 0), .inr (6, [.ref (t 1), .int 0, .ref (n 0), .ref (v 0), .ref (t 2), .ref (t 3), .ref (t 4), .ref (t 5), .ref (d 0), .ref (t 6), .ref (t 7)])), ((t 4), .inl (k 5, 4, .inr (.inr (.inr (.inr (va_rs [(b 0), (b 1), (b 2), (b 3)])))))), ((b 0), .inr (2, [.int 0, .int 0, .ref (b 4), .int 0])), ((b 1), .inr (2, [.int 0, .int 0, .ref (b 5), .int 0])), ((b 3), .inr (2, [.int 0, .int 0, .ref (b 7), .int 0])), ((b 4), .inl (k 1, 40, .inr (.inl (fun _ => 0)))), ((b 5), .inl (k 1, 40, .inr (.inl (fun _ => 0)))), ((b 7), .inl (k 1, 40, .inr (.inl (fun _ => 0))))]) ⟨hx, hb, hml, hown, hts⟩ (c_N_begin l D k (b 2) (b 6) x z _) (gV mw_1129 mw_1130 mw_1131 mw_42 mw_1132) hd_yX3_begin rfl rfl ⟨Nat.le_of_ble_eq_true rfl, Nat.le_of_ble_eq_true rfl⟩ hK hP hD hS hA [4, 8] [0, 1, 2, 3, 5, 6, 7, 9] rfl rfl (by decide) (by decide) (by decide) rfl rfl rfl rfl hl.1 rfl (Nat.le_of_ble_eq_true rfl) dX7_numbers_40 ⟨Nat.le_of_ble_eq_true rfl, Nat.le_of_ble_eq_true rfl⟩ (fun u_16 H locs hw hP hD hS => ?_)
              have hP : va_P D vwCl [((t 0), .inr (6, [.ref (t 1), .int 0, .ref (n 0), .ref (v 0), .ref (t 2), .ref (t 3), .ref (t 4), .ref (t 5), .ref (d 0), .ref (t 6), .ref (t 7)])), ((t 4), .inl (k 5, 4, .inr (.inr (.inr (.inr (va_rs [(b 0), (b 1), (b 2), (b 3)])))))), ((b 0), .inr (2, [.int 0, .int 0, .ref (b 4), .int 0])), ((b 1), .inr (2, [.int 0, .int 0, .ref (b 5), .int 0])), ((b 3), .inr (2, [.int 0, .int 0, .ref (b 7), .int 0])), ((b 4), .inl (k 1, 40, .inr (.inl (fun _ => 0)))), ((b 5), .inl (k 1, 40, .inr (.inl (fun _ => 0)))), ((b 7), .inl (k 1, 40, .inr (.inl (fun _ => 0)))), ((b 2), .inr (2, [.int 1, .int z, .ref (b 6), .int x])), ((b 6), .inl (k 1, 40, .inr (.inl (fun _ => 0))))] H := hP
              have hD : va_D A [((t 0), .inr (6, [.ref (t 1), .int 0, .ref (n 0), .ref (v 0), .ref (t 2), .ref (t 3), .ref (t 4), .ref (t 5), .ref (d 0), .ref (t 6), .ref (t 7)])), ((t 4), .inl (k 5, 4, .inr (.inr (.inr (.inr (va_rs [(b 0), (b 1), (b 2), (b 3)])))))), ((b 0), .inr (2, [.int 0, .int 0, .ref (b 4), .int 0])), ((b 1), .inr (2, [.int 0, .int 0, .ref (b 5), .int 0])), ((b 3), .inr (2, [.int 0, .int 0, .ref (b 7), .int 0])), ((b 4), .inl (k 1, 40, .inr (.inl (fun _ => 0)))), ((b 5), .inl (k 1, 40, .inr (.inl (fun _ => 0)))), ((b 7), .inl (k 1, 40, .inr (.inl (fun _ => 0)))), ((b 2), .inr (2, [.int 1, .int z, .ref (b 6), .int x])), ((b 6), .inl (k 1, 40, .inr (.inl (fun _ => 0))))] := hD
              refine lv_iconst (v := 0) hx hb dX7_numbers_43 (by decide) ?_
              have hP9 := hP.sub (ws' := []) [] rfl
              have hD9 := hD.sub (ws' := []) [] (by decide) rfl
              exact W.iret (v := 0) hx hb hr (fun t ht hW => ⟨⟨0, (), rfl, (by (repeat' split) <;> first | rfl | (exfalso; omega)), by rw [ht]; exact hP9, hD9⟩, hS.F ht⟩) hS.2.2 dX7_numbers_44
            · have qc_10 : a = 3 := ti_of (show a.toInt = 3 from c_10)
              refine lv_ni (v := 3) qc_10 ?_
              refine va_aldq hx hb hK hP 1 5 rfl rfl (vp_in_c (by decide)) dX7_numbers_37 ?_
              refine lv_nv (v := .ref (b 3)) (rfl) ?_
              refine lv_iload_n hx hb dX7_numbers_38 rfl (lv_at hl 2 rfl) ?_
              refine lv_iload_n hx hb dX7_numbers_39 rfl (lv_at hl 3 rfl) ?_
              refine kV_uv (q0 := 0) (As := [.int x, .int z]) (rest := []) (wc := [((b 3), .inr (2, [.int 0, .int 0, .ref (b 7), .int 0])), ((b 7), .inl (k 1, 40, .inr (.inl (fun _ => 0))))]) (wr := [((t 0), .inr (6, [.ref (t 1), .int 0, .ref (n 0), .ref (v 0), .ref (t 2), .ref (t 3), .ref (t 4), .ref (t 5), .ref (d 0), .ref (t 6), .ref (t 7)])), ((t 4), .inl (k 5, 4, .inr (.inr (.inr (.inr (va_rs [(b 0), (b 1), (b 2), (b 3)])))))), ((b 0), .inr (2, [.int 0, .int 0, .ref (b 4), .int 0])), ((b 1), .inr (2, [.int 0, .int 0, .ref (b 5), .int 0])), ((b 2), .inr (2, [.int 0, .int 0, .ref (b 6), .int 0])), ((b 4), .inl (k 1, 40, .inr (.inl (fun _ => 0)))), ((b 5), .inl (k 1, 40, .inr (.inl (fun _ => 0)))), ((b 6), .inl (k 1, 40, .inr (.inl (fun _ => 0))))]) ⟨hx, hb, hml, hown, hts⟩ (c_N_begin l D k (b 3) (b 7) x z _) (gV mw_1129 mw_1130 mw_1131 mw_42 mw_1132) hd_yX3_begin rfl rfl ⟨Nat.le_of_ble_eq_true rfl, Nat.le_of_ble_eq_true rfl⟩ hK hP hD hS hA [5, 9] [0, 1, 2, 3, 4, 6, 7, 8] rfl rfl (by decide) (by decide) (by decide) rfl rfl rfl rfl hl.1 rfl (Nat.le_of_ble_eq_true rfl) dX7_numbers_40 ⟨Nat.le_of_ble_eq_true rfl, Nat.le_of_ble_eq_true rfl⟩ (fun u_18 H locs hw hP hD hS => ?_)
              have hP : va_P D vwCl [((t 0), .inr (6, [.ref (t 1), .int 0, .ref (n 0), .ref (v 0), .ref (t 2), .ref (t 3), .ref (t 4), .ref (t 5), .ref (d 0), .ref (t 6), .ref (t 7)])), ((t 4), .inl (k 5, 4, .inr (.inr (.inr (.inr (va_rs [(b 0), (b 1), (b 2), (b 3)])))))), ((b 0), .inr (2, [.int 0, .int 0, .ref (b 4), .int 0])), ((b 1), .inr (2, [.int 0, .int 0, .ref (b 5), .int 0])), ((b 2), .inr (2, [.int 0, .int 0, .ref (b 6), .int 0])), ((b 4), .inl (k 1, 40, .inr (.inl (fun _ => 0)))), ((b 5), .inl (k 1, 40, .inr (.inl (fun _ => 0)))), ((b 6), .inl (k 1, 40, .inr (.inl (fun _ => 0)))), ((b 3), .inr (2, [.int 1, .int z, .ref (b 7), .int x])), ((b 7), .inl (k 1, 40, .inr (.inl (fun _ => 0))))] H := hP
              have hD : va_D A [((t 0), .inr (6, [.ref (t 1), .int 0, .ref (n 0), .ref (v 0), .ref (t 2), .ref (t 3), .ref (t 4), .ref (t 5), .ref (d 0), .ref (t 6), .ref (t 7)])), ((t 4), .inl (k 5, 4, .inr (.inr (.inr (.inr (va_rs [(b 0), (b 1), (b 2), (b 3)])))))), ((b 0), .inr (2, [.int 0, .int 0, .ref (b 4), .int 0])), ((b 1), .inr (2, [.int 0, .int 0, .ref (b 5), .int 0])), ((b 2), .inr (2, [.int 0, .int 0, .ref (b 6), .int 0])), ((b 4), .inl (k 1, 40, .inr (.inl (fun _ => 0)))), ((b 5), .inl (k 1, 40, .inr (.inl (fun _ => 0)))), ((b 6), .inl (k 1, 40, .inr (.inl (fun _ => 0)))), ((b 3), .inr (2, [.int 1, .int z, .ref (b 7), .int x])), ((b 7), .inl (k 1, 40, .inr (.inl (fun _ => 0))))] := hD
              refine lv_iconst (v := 0) hx hb dX7_numbers_43 (by decide) ?_
              have hP9 := hP.sub (ws' := []) [] rfl
              have hD9 := hD.sub (ws' := []) [] (by decide) rfl
              exact W.iret (v := 0) hx hb hr (fun t ht hW => ⟨⟨0, (), rfl, (by (repeat' split) <;> first | rfl | (exfalso; omega)), by rw [ht]; exact hP9, hD9⟩, hS.F ht⟩) hS.2.2 dX7_numbers_44
          · have c_6 : 40 < z.toInt := ti_nle c_6
            refine lv_bipush (v := (-3)) hx hb dX7_numbers_29 (by decide) ?_
            have hP9 := hP.sub (ws' := []) [] rfl
            have hD9 := hD.sub (ws' := []) [] (by decide) rfl
            exact W.iret (v := (-3)) hx hb hr (fun t ht hW => ⟨⟨(-3), (), rfl, (by (repeat' split) <;> first | rfl | (exfalso; omega)), by rw [ht]; exact hP9, hD9⟩, hS.F ht⟩) hS.2.2 dX7_numbers_31
      · have c_4 : 3 < x.toInt := ti_nle c_4
        refine lv_bipush (v := (-2)) hx hb dX7_numbers_16 (by decide) ?_
        have hP9 := hP.sub (ws' := []) [] rfl
        have hD9 := hD.sub (ws' := []) [] (by decide) rfl
        exact W.iret (v := (-2)) hx hb hr (fun t ht hW => ⟨⟨(-2), (), rfl, (by (repeat' split) <;> first | rfl | (exfalso; omega)), by rw [ht]; exact hP9, hD9⟩, hS.F ht⟩) hS.2.2 dX7_numbers_18
  have hr_1 := hr_1.trans (if_neg hc_2)
  obtain rfl : r_1 = 0 := hr_1
  refine lv_if_eq (tgt := 16) hx hb dX7_numbers_4 (by decide) (fun _ => ?_) (fun c9 => absurd c9 (by decide))
  refine lv_bipush (v := (-2)) hx hb dX7_numbers_16 (by decide) ?_
  have hP9 := hP.sub (ws' := []) [] rfl
  have hD9 := hD.sub (ws' := []) [] (by decide) rfl
  exact W.iret (v := (-2)) hx hb hr (fun t ht hW => ⟨⟨(-2), (), rfl, (by (repeat' split) <;> first | rfl | (exfalso; omega)), by rw [ht]; exact hP9, hD9⟩, hS.F ht⟩) hS.2.2 dX7_numbers_18
set_option maxHeartbeats 4000000 in
set_option maxRecDepth 100000 in
theorem c_T_write (l : Launch) (D : va_G) (k : Nat → ClassId) (t : Nat → Nat) (n : Nat → Nat) (v : Nat → Nat) (d : Nat → Nat) (b : Nat → Nat) (a : Int32) (x : Int32) (lv : Int64) : Met l yX7_write (Cond.code yX7_write cX7_write 5 (some .long) :: wsL_law) ({ frames := 1, cells := 0, slots := 0, locals := 60 } : Room) (va_Pc [.ref (t 0), .int a, .int x, .long lv] (pr D k [((t 0), .inr (6, [.ref (t 1), .int 0, .ref (n 0), .ref (v 0), .ref (t 2), .ref (t 3), .ref (t 4), .ref (t 5), .ref (d 0), .ref (t 6), .ref (t 7)])), ((t 4), .inl (k 5, 4, .inr (.inr (.inr (.inr (va_rs [(b 0), (b 1), (b 2), (b 3)])))))), ((b 0), .inr (2, [.int 0, .int 0, .ref (b 4), .int 0])), ((b 1), .inr (2, [.int 0, .int 0, .ref (b 5), .int 0])), ((b 2), .inr (2, [.int 0, .int 0, .ref (b 6), .int 0])), ((b 3), .inr (2, [.int 0, .int 0, .ref (b 7), .int 0]))])) (vp_Sl (fun rr => rr = if 0 ≤ a.toInt ∧ a.toInt ≤ 3 then (-6) else (-2))) 0 0 (fun _ => False) := by
  refine Met.ofW (cc := cX7_write) (maxL := 5) (ret := (some .long)) (by decide) rfl ?_
  intro p e s m args below meth c s₁ B hml hv
  obtain ⟨rfl, hP, hK⟩ := hv
  have hx := B.exec
  have hb := B.bytes
  have hr := B.returns
  have hts : ∀ w ∈ wsL_law, w.before _ s = true := fun w h => atoms_spec (ws := Cond.code yX7_write cX7_write 5 (some .long) :: wsL_law) B.pre w (List.mem_cons_of_mem _ h)
  have hown : s.vm.findClass RX7 = some m.cls := findClass_of_methodNamed B.named
  have hlocks := B.notSynchronized
  have hP : va_P D vwCl [((t 0), .inr (6, [.ref (t 1), .int 0, .ref (n 0), .ref (v 0), .ref (t 2), .ref (t 3), .ref (t 4), .ref (t 5), .ref (d 0), .ref (t 6), .ref (t 7)])), ((t 4), .inl (k 5, 4, .inr (.inr (.inr (.inr (va_rs [(b 0), (b 1), (b 2), (b 3)])))))), ((b 0), .inr (2, [.int 0, .int 0, .ref (b 4), .int 0])), ((b 1), .inr (2, [.int 0, .int 0, .ref (b 5), .int 0])), ((b 2), .inr (2, [.int 0, .int 0, .ref (b 6), .int 0])), ((b 3), .inr (2, [.int 0, .int 0, .ref (b 7), .int 0]))] s.heap := hP
  have hl := lv_entry ([.ref (t 0), .int a, .int x, .long lv]) (n := 5) (Nat.le_of_ble_eq_true rfl)
  rw [lg_entry_eq]
  generalize (lg_sl ([.ref (t 0), .int a, .int x, .long lv]) ++ List.replicate (5 - (lg_sl ([.ref (t 0), .int a, .int x, .long lv])).length) Slot.unset).toArray = ls at hl ⊢
  have hl : lv_has ls 5 [(0, .ref (t 0)), (1, .int a), (2, .int x), (3, .long lv)] := hl
  refine lv_iload_n hx hb dX7_write_0 rfl (lv_at hl 1 rfl) ?_
  refine kS_i (As := [.int a]) (rest := []) (cs := []) ⟨hx, hb, hml, hown, hts⟩ (c_T_isRow l D k a) (gS mw_573 mw_574 mw_2 mw_575) hd_yX7_isRow rfl rfl ⟨Nat.le_of_ble_eq_true rfl, Nat.le_of_ble_eq_true rfl⟩ hK (hP.sub (ws' := []) [] rfl) rfl hl.1 rfl (Nat.le_of_ble_eq_true rfl) dX7_write_1 ⟨Nat.le_of_ble_eq_true rfl, Nat.le_of_ble_eq_true rfl⟩ (fun r_1 hr_1 => ?_)
  by_cases hc_2 : 0 ≤ a.toInt ∧ a.toInt ≤ 3
  · obtain rfl : r_1 = 1 := hr_1.trans (if_pos hc_2)
    refine lv_if_ne (tgt := 11) hx hb dX7_write_4 (by decide) (fun _ => ?_) (fun c9 => absurd c9 (by decide))
    refine lv_aload_n hx hb dX7_write_11 rfl (lv_at hl 0 rfl) ?_
    refine va_get (D := D) (ci := 6) (v := .ref (t 4)) (C := RX7) (T := TX7) (N := 11) hx hb hts inlX7 hown hK hP 0 rfl rfl 6 (by decide) (hts _ mw_26) (fun _ h9 => h9) rfl dX7_write_12 ?_
    refine lv_iload_n hx hb dX7_write_15 rfl (lv_at hl 1 rfl) ?_
    rcases (show a.toInt = 0 ∨ a.toInt = 1 ∨ a.toInt = 2 ∨ a.toInt = 3 from by omega) with c_3 | c_4 | c_5 | c_6
    · have qc_3 : a = 0 := ti_of (show a.toInt = 0 from c_3)
      refine lv_ni (v := 0) qc_3 ?_
      refine va_aldq hx hb hK hP 1 5 rfl rfl (vp_in_c (by decide)) dX7_write_16 ?_
      refine lv_nv (v := .ref (b 0)) (rfl) ?_
      refine va_get (D := D) (ci := 2) (v := .int 0) (C := RX3) (T := TX3) (N := 4) hx hb hts inlX3 hown hK hP 2 rfl rfl 0 (by decide) (hts _ mw_570) (fun _ h9 => h9) rfl dX7_write_17 ?_
      refine lv_if_ne (tgt := 27) hx hb dX7_write_20 (by decide) (fun c9 => absurd c9 (by decide)) (fun _ => ?_)
      refine lv_ldc2 (own := RX7) (index := 340) (v := (-6)) hx hb hown (hts _ mw_1144) dX7_write_23 ?_
      exact W.lret (v := (-6)) hx hb hr (fun t ht hW => ⟨(-6), rfl, (by (repeat' split) <;> first | rfl | (exfalso; omega)), ht⟩) (fun q h => by cases h) dX7_write_26
    · have qc_4 : a = 1 := ti_of (show a.toInt = 1 from c_4)
      refine lv_ni (v := 1) qc_4 ?_
      refine va_aldq hx hb hK hP 1 5 rfl rfl (vp_in_c (by decide)) dX7_write_16 ?_
      refine lv_nv (v := .ref (b 1)) (rfl) ?_
      refine va_get (D := D) (ci := 2) (v := .int 0) (C := RX3) (T := TX3) (N := 4) hx hb hts inlX3 hown hK hP 3 rfl rfl 0 (by decide) (hts _ mw_570) (fun _ h9 => h9) rfl dX7_write_17 ?_
      refine lv_if_ne (tgt := 27) hx hb dX7_write_20 (by decide) (fun c9 => absurd c9 (by decide)) (fun _ => ?_)
      refine lv_ldc2 (own := RX7) (index := 340) (v := (-6)) hx hb hown (hts _ mw_1144) dX7_write_23 ?_
      exact W.lret (v := (-6)) hx hb hr (fun t ht hW => ⟨(-6), rfl, (by (repeat' split) <;> first | rfl | (exfalso; omega)), ht⟩) (fun q h => by cases h) dX7_write_26
    · have qc_5 : a = 2 := ti_of (show a.toInt = 2 from c_5)
      refine lv_ni (v := 2) qc_5 ?_
      refine va_aldq hx hb hK hP 1 5 rfl rfl (vp_in_c (by decide)) dX7_write_16 ?_
      refine lv_nv (v := .ref (b 2)) (rfl) ?_
      refine va_get (D := D) (ci := 2) (v := .int 0) (C := RX3) (T := TX3) (N := 4) hx hb hts inlX3 hown hK hP 4 rfl rfl 0 (by decide) (hts _ mw_570) (fun _ h9 => h9) rfl dX7_write_17 ?_
      refine lv_if_ne (tgt := 27) hx hb dX7_write_20 (by decide) (fun c9 => absurd c9 (by decide)) (fun _ => ?_)
      refine lv_ldc2 (own := RX7) (index := 340) (v := (-6)) hx hb hown (hts _ mw_1144) dX7_write_23 ?_
      exact W.lret (v := (-6)) hx hb hr (fun t ht hW => ⟨(-6), rfl, (by (repeat' split) <;> first | rfl | (exfalso; omega)), ht⟩) (fun q h => by cases h) dX7_write_26
    · have qc_6 : a = 3 := ti_of (show a.toInt = 3 from c_6)
      refine lv_ni (v := 3) qc_6 ?_
      refine va_aldq hx hb hK hP 1 5 rfl rfl (vp_in_c (by decide)) dX7_write_16 ?_
      refine lv_nv (v := .ref (b 3)) (rfl) ?_
      refine va_get (D := D) (ci := 2) (v := .int 0) (C := RX3) (T := TX3) (N := 4) hx hb hts inlX3 hown hK hP 5 rfl rfl 0 (by decide) (hts _ mw_570) (fun _ h9 => h9) rfl dX7_write_17 ?_
      refine lv_if_ne (tgt := 27) hx hb dX7_write_20 (by decide) (fun c9 => absurd c9 (by decide)) (fun _ => ?_)
      refine lv_ldc2 (own := RX7) (index := 340) (v := (-6)) hx hb hown (hts _ mw_1144) dX7_write_23 ?_
      exact W.lret (v := (-6)) hx hb hr (fun t ht hW => ⟨(-6), rfl, (by (repeat' split) <;> first | rfl | (exfalso; omega)), ht⟩) (fun q h => by cases h) dX7_write_26
  have hr_1 := hr_1.trans (if_neg hc_2)
  obtain rfl : r_1 = 0 := hr_1
  refine lv_if_ne (tgt := 11) hx hb dX7_write_4 (by decide) (fun c9 => absurd c9 (by decide)) (fun _ => ?_)
  refine lv_ldc2 (own := RX7) (index := 287) (v := (-2)) hx hb hown (hts _ mw_920) dX7_write_7 ?_
  exact W.lret (v := (-2)) hx hb hr (fun t ht hW => ⟨(-2), rfl, (by (repeat' split) <;> first | rfl | (exfalso; omega)), ht⟩) (fun q h => by cases h) dX7_write_10
set_option maxHeartbeats 4000000 in
set_option maxRecDepth 100000 in
theorem c_T_image (l : Launch) (D : va_G) (k : Nat → ClassId) (t : Nat → Nat) (n : Nat → Nat) (v : Nat → Nat) (d : Nat → Nat) (i0 : Nat → Nat) (i1 : Nat → Nat) (a : Int32) (sz : Nat) : Met l yX7_image (Cond.code yX7_image cX7_image 2 (some .int) :: wsL_law) ({ frames := 2, cells := 0, slots := 0, locals := 120 } : Room) (va_Pc [.ref (t 0), .int a] (pu D k sz [((t 0), .inr (6, [.ref (t 1), .int 0, .ref (n 0), .ref (v 0), .ref (t 2), .ref (t 3), .ref (t 4), .ref (t 5), .ref (d 0), .ref (t 6), .ref (t 7)])), ((t 2), .inl (k 4, 2, .inr (.inr (.inr (.inr (va_rs [(i0 0), (i1 0)])))))), ((t 3), .inl (k 3, 2, .inl (fun _ => 0))), ((i0 0), .inr (5, [.int 0, .int 0, .int 3, .int 8, .int 4, .int 4, .int 0, .int 0, .int 0, .int 0, .int 0, .ref (i0 1), .ref (i0 2), .ref (i0 3), .ref (i0 4), .ref (i0 5)])), ((i0 1), .inl (k 0, 10, .inl (fun _ => 0))), ((i0 2), .inl (k 0, 10, .inl (fun _ => 0))), ((i0 3), .inl (k 0, 60, .inl (fun _ => 0))), ((i1 0), .inr (5, [.int 0, .int 0, .int 3, .int 8, .int 4, .int 4, .int 0, .int 0, .int 0, .int 0, .int 0, .ref (i1 1), .ref (i1 2), .ref (i1 3), .ref (i1 4), .ref (i1 5)])), ((i1 1), .inl (k 0, 10, .inl (fun _ => 0))), ((i1 2), .inl (k 0, 10, .inl (fun _ => 0))), ((i1 3), .inl (k 0, 60, .inl (fun _ => 0))), ((n 0), .inr (5, [.int 0, .int 0, .int 3, .int 8, .int 4, .int 4, .int 0, .int 0, .int 0, .int 0, .int 0, .ref (n 1), .ref (n 2), .ref (n 3), .ref (n 4), .ref (n 5)])), ((n 1), .inl (k 0, 10, .inl (fun _ => 0))), ((n 2), .inl (k 0, 10, .inl (fun _ => 0))), ((n 3), .inl (k 0, 60, .inl (fun _ => 0)))])) (va_Qi (fun rr (uu : Unit) => rr = if 0 ≤ a.toInt ∧ a.toInt ≤ 1 then 0 else (-2)) (qu D (va_A [((t 0), .inr (6, [.ref (t 1), .int 0, .ref (n 0), .ref (v 0), .ref (t 2), .ref (t 3), .ref (t 4), .ref (t 5), .ref (d 0), .ref (t 6), .ref (t 7)])), ((t 2), .inl (k 4, 2, .inr (.inr (.inr (.inr (va_rs [(i0 0), (i1 0)])))))), ((t 3), .inl (k 3, 2, .inl (fun _ => 0))), ((i0 0), .inr (5, [.int 0, .int 0, .int 3, .int 8, .int 4, .int 4, .int 0, .int 0, .int 0, .int 0, .int 0, .ref (i0 1), .ref (i0 2), .ref (i0 3), .ref (i0 4), .ref (i0 5)])), ((i0 1), .inl (k 0, 10, .inl (fun _ => 0))), ((i0 2), .inl (k 0, 10, .inl (fun _ => 0))), ((i0 3), .inl (k 0, 60, .inl (fun _ => 0))), ((i1 0), .inr (5, [.int 0, .int 0, .int 3, .int 8, .int 4, .int 4, .int 0, .int 0, .int 0, .int 0, .int 0, .ref (i1 1), .ref (i1 2), .ref (i1 3), .ref (i1 4), .ref (i1 5)])), ((i1 1), .inl (k 0, 10, .inl (fun _ => 0))), ((i1 2), .inl (k 0, 10, .inl (fun _ => 0))), ((i1 3), .inl (k 0, 60, .inl (fun _ => 0))), ((n 0), .inr (5, [.int 0, .int 0, .int 3, .int 8, .int 4, .int 4, .int 0, .int 0, .int 0, .int 0, .int 0, .ref (n 1), .ref (n 2), .ref (n 3), .ref (n 4), .ref (n 5)])), ((n 1), .inl (k 0, 10, .inl (fun _ => 0))), ((n 2), .inl (k 0, 10, .inl (fun _ => 0))), ((n 3), .inl (k 0, 60, .inl (fun _ => 0)))] sz) (fun uu : Unit => [])) (va_A [((t 0), .inr (6, [.ref (t 1), .int 0, .ref (n 0), .ref (v 0), .ref (t 2), .ref (t 3), .ref (t 4), .ref (t 5), .ref (d 0), .ref (t 6), .ref (t 7)])), ((t 2), .inl (k 4, 2, .inr (.inr (.inr (.inr (va_rs [(i0 0), (i1 0)])))))), ((t 3), .inl (k 3, 2, .inl (fun _ => 0))), ((i0 0), .inr (5, [.int 0, .int 0, .int 3, .int 8, .int 4, .int 4, .int 0, .int 0, .int 0, .int 0, .int 0, .ref (i0 1), .ref (i0 2), .ref (i0 3), .ref (i0 4), .ref (i0 5)])), ((i0 1), .inl (k 0, 10, .inl (fun _ => 0))), ((i0 2), .inl (k 0, 10, .inl (fun _ => 0))), ((i0 3), .inl (k 0, 60, .inl (fun _ => 0))), ((i1 0), .inr (5, [.int 0, .int 0, .int 3, .int 8, .int 4, .int 4, .int 0, .int 0, .int 0, .int 0, .int 0, .ref (i1 1), .ref (i1 2), .ref (i1 3), .ref (i1 4), .ref (i1 5)])), ((i1 1), .inl (k 0, 10, .inl (fun _ => 0))), ((i1 2), .inl (k 0, 10, .inl (fun _ => 0))), ((i1 3), .inl (k 0, 60, .inl (fun _ => 0))), ((n 0), .inr (5, [.int 0, .int 0, .int 3, .int 8, .int 4, .int 4, .int 0, .int 0, .int 0, .int 0, .int 0, .ref (n 1), .ref (n 2), .ref (n 3), .ref (n 4), .ref (n 5)])), ((n 1), .inl (k 0, 10, .inl (fun _ => 0))), ((n 2), .inl (k 0, 10, .inl (fun _ => 0))), ((n 3), .inl (k 0, 60, .inl (fun _ => 0)))] sz)) 0 0 (va_A [((t 0), .inr (6, [.ref (t 1), .int 0, .ref (n 0), .ref (v 0), .ref (t 2), .ref (t 3), .ref (t 4), .ref (t 5), .ref (d 0), .ref (t 6), .ref (t 7)])), ((t 2), .inl (k 4, 2, .inr (.inr (.inr (.inr (va_rs [(i0 0), (i1 0)])))))), ((t 3), .inl (k 3, 2, .inl (fun _ => 0))), ((i0 0), .inr (5, [.int 0, .int 0, .int 3, .int 8, .int 4, .int 4, .int 0, .int 0, .int 0, .int 0, .int 0, .ref (i0 1), .ref (i0 2), .ref (i0 3), .ref (i0 4), .ref (i0 5)])), ((i0 1), .inl (k 0, 10, .inl (fun _ => 0))), ((i0 2), .inl (k 0, 10, .inl (fun _ => 0))), ((i0 3), .inl (k 0, 60, .inl (fun _ => 0))), ((i1 0), .inr (5, [.int 0, .int 0, .int 3, .int 8, .int 4, .int 4, .int 0, .int 0, .int 0, .int 0, .int 0, .ref (i1 1), .ref (i1 2), .ref (i1 3), .ref (i1 4), .ref (i1 5)])), ((i1 1), .inl (k 0, 10, .inl (fun _ => 0))), ((i1 2), .inl (k 0, 10, .inl (fun _ => 0))), ((i1 3), .inl (k 0, 60, .inl (fun _ => 0))), ((n 0), .inr (5, [.int 0, .int 0, .int 3, .int 8, .int 4, .int 4, .int 0, .int 0, .int 0, .int 0, .int 0, .ref (n 1), .ref (n 2), .ref (n 3), .ref (n 4), .ref (n 5)])), ((n 1), .inl (k 0, 10, .inl (fun _ => 0))), ((n 2), .inl (k 0, 10, .inl (fun _ => 0))), ((n 3), .inl (k 0, 60, .inl (fun _ => 0)))] sz) := by
  refine Met.ofW (cc := cX7_image) (maxL := 2) (ret := (some .int)) (by decide) rfl ?_
  intro p e s m args below meth c s₁ B hml hv
  obtain ⟨rfl, hsz, hP, hK, hD0⟩ := hv
  have hx := B.exec
  have hb := B.bytes
  have hr := B.returns
  have hts : ∀ w ∈ wsL_law, w.before _ s = true := fun w h => atoms_spec (ws := Cond.code yX7_image cX7_image 2 (some .int) :: wsL_law) B.pre w (List.mem_cons_of_mem _ h)
  have hown : s.vm.findClass RX7 = some m.cls := findClass_of_methodNamed B.named
  have hlocks := B.notSynchronized
  subst hsz
  have hD := hD0.self (sz := s.heap.size)
  generalize hAe : va_A [((t 0), .inr (6, [.ref (t 1), .int 0, .ref (n 0), .ref (v 0), .ref (t 2), .ref (t 3), .ref (t 4), .ref (t 5), .ref (d 0), .ref (t 6), .ref (t 7)])), ((t 2), .inl (k 4, 2, .inr (.inr (.inr (.inr (va_rs [(i0 0), (i1 0)])))))), ((t 3), .inl (k 3, 2, .inl (fun _ => 0))), ((i0 0), .inr (5, [.int 0, .int 0, .int 3, .int 8, .int 4, .int 4, .int 0, .int 0, .int 0, .int 0, .int 0, .ref (i0 1), .ref (i0 2), .ref (i0 3), .ref (i0 4), .ref (i0 5)])), ((i0 1), .inl (k 0, 10, .inl (fun _ => 0))), ((i0 2), .inl (k 0, 10, .inl (fun _ => 0))), ((i0 3), .inl (k 0, 60, .inl (fun _ => 0))), ((i1 0), .inr (5, [.int 0, .int 0, .int 3, .int 8, .int 4, .int 4, .int 0, .int 0, .int 0, .int 0, .int 0, .ref (i1 1), .ref (i1 2), .ref (i1 3), .ref (i1 4), .ref (i1 5)])), ((i1 1), .inl (k 0, 10, .inl (fun _ => 0))), ((i1 2), .inl (k 0, 10, .inl (fun _ => 0))), ((i1 3), .inl (k 0, 60, .inl (fun _ => 0))), ((n 0), .inr (5, [.int 0, .int 0, .int 3, .int 8, .int 4, .int 4, .int 0, .int 0, .int 0, .int 0, .int 0, .ref (n 1), .ref (n 2), .ref (n 3), .ref (n 4), .ref (n 5)])), ((n 1), .inl (k 0, 10, .inl (fun _ => 0))), ((n 2), .inl (k 0, 10, .inl (fun _ => 0))), ((n 3), .inl (k 0, 60, .inl (fun _ => 0)))] s.heap.size = A at hD ⊢
  have hA : ∀ q : Nat, s.heap.size ≤ q → A q := fun q h => by rw [← hAe]; exact Or.inr h
  have hS : va_S A s.heap s.heap [] := va_S.rf
  have hP : va_P D vwCl [((t 0), .inr (6, [.ref (t 1), .int 0, .ref (n 0), .ref (v 0), .ref (t 2), .ref (t 3), .ref (t 4), .ref (t 5), .ref (d 0), .ref (t 6), .ref (t 7)])), ((t 2), .inl (k 4, 2, .inr (.inr (.inr (.inr (va_rs [(i0 0), (i1 0)])))))), ((t 3), .inl (k 3, 2, .inl (fun _ => 0))), ((i0 0), .inr (5, [.int 0, .int 0, .int 3, .int 8, .int 4, .int 4, .int 0, .int 0, .int 0, .int 0, .int 0, .ref (i0 1), .ref (i0 2), .ref (i0 3), .ref (i0 4), .ref (i0 5)])), ((i0 1), .inl (k 0, 10, .inl (fun _ => 0))), ((i0 2), .inl (k 0, 10, .inl (fun _ => 0))), ((i0 3), .inl (k 0, 60, .inl (fun _ => 0))), ((i1 0), .inr (5, [.int 0, .int 0, .int 3, .int 8, .int 4, .int 4, .int 0, .int 0, .int 0, .int 0, .int 0, .ref (i1 1), .ref (i1 2), .ref (i1 3), .ref (i1 4), .ref (i1 5)])), ((i1 1), .inl (k 0, 10, .inl (fun _ => 0))), ((i1 2), .inl (k 0, 10, .inl (fun _ => 0))), ((i1 3), .inl (k 0, 60, .inl (fun _ => 0))), ((n 0), .inr (5, [.int 0, .int 0, .int 3, .int 8, .int 4, .int 4, .int 0, .int 0, .int 0, .int 0, .int 0, .ref (n 1), .ref (n 2), .ref (n 3), .ref (n 4), .ref (n 5)])), ((n 1), .inl (k 0, 10, .inl (fun _ => 0))), ((n 2), .inl (k 0, 10, .inl (fun _ => 0))), ((n 3), .inl (k 0, 60, .inl (fun _ => 0)))] s.heap := hP
  have hl := lv_entry ([.ref (t 0), .int a]) (n := 2) (Nat.le_of_ble_eq_true rfl)
  rw [lg_entry_eq]
  generalize (lg_sl ([.ref (t 0), .int a]) ++ List.replicate (2 - (lg_sl ([.ref (t 0), .int a])).length) Slot.unset).toArray = ls at hl ⊢
  have hl : lv_has ls 2 [(0, .ref (t 0)), (1, .int a)] := hl
  refine lv_iload_n hx hb dX7_image_0 rfl (lv_at hl 1 rfl) ?_
  refine lv_if_lt (tgt := 9) hx hb dX7_image_1 (by decide) (fun c_1 => ?_) (fun c_1 => ?_)
  · have c_1 : a.toInt < 0 := ti_lt c_1
    refine lv_bipush (v := (-2)) hx hb dX7_image_9 (by decide) ?_
    have hP9 := hP.sub (ws' := []) [] rfl
    have hD9 := hD.sub (ws' := []) [] (by decide) rfl
    exact W.iret (v := (-2)) hx hb hr (fun t ht hW => ⟨⟨(-2), (), rfl, (by (repeat' split) <;> first | rfl | (exfalso; omega)), by rw [ht]; exact hP9, hD9⟩, hS.F ht⟩) hS.2.2 dX7_image_11
  · have c_1 : 0 ≤ a.toInt := ti_nlt c_1
    refine lv_iload_n hx hb dX7_image_4 rfl (lv_at hl 1 rfl) ?_
    refine lv_iconst (v := 2) hx hb dX7_image_5 (by decide) ?_
    refine lv_icmp_lt (tgt := 12) hx hb dX7_image_6 (by decide) (fun c_2 => ?_) (fun c_2 => ?_)
    · have c_2 : a.toInt < 2 := ti_lt c_2
      refine lv_aload_n hx hb dX7_image_12 rfl (lv_at hl 0 rfl) ?_
      refine va_get (D := D) (ci := 6) (v := .ref (t 2)) (C := RX7) (T := TX7) (N := 11) hx hb hts inlX7 hown hK hP 0 rfl rfl 4 (by decide) (hts _ mw_22) (fun _ h9 => h9) rfl dX7_image_13 ?_
      refine lv_iload_n hx hb dX7_image_16 rfl (lv_at hl 1 rfl) ?_
      rcases (show a.toInt = 0 ∨ a.toInt = 1 from by omega) with c_3 | c_4
      · have qc_3 : a = 0 := ti_of (show a.toInt = 0 from c_3)
        refine lv_ni (v := 0) qc_3 ?_
        refine va_aldq hx hb hK hP 1 4 rfl rfl (vp_in_c (by decide)) dX7_image_17 ?_
        refine lv_nv (v := .ref (i0 0)) (rfl) ?_
        refine lv_aload_n hx hb dX7_image_18 rfl (lv_at hl 0 rfl) ?_
        refine va_get (D := D) (ci := 6) (v := .ref (n 0)) (C := RX7) (T := TX7) (N := 11) hx hb hts inlX7 hown hK hP 0 rfl rfl 2 (by decide) (hts _ mw_20) (fun _ h9 => h9) rfl dX7_image_19 ?_
        refine kV_uv (q0 := 0) (As := [.ref (n 0)]) (rest := []) (wc := [((i0 0), .inr (5, [.int 0, .int 0, .int 3, .int 8, .int 4, .int 4, .int 0, .int 0, .int 0, .int 0, .int 0, .ref (i0 1), .ref (i0 2), .ref (i0 3), .ref (i0 4), .ref (i0 5)])), ((i0 1), .inl (k 0, 10, .inl (fun _ => 0))), ((i0 2), .inl (k 0, 10, .inl (fun _ => 0))), ((i0 3), .inl (k 0, 60, .inl (fun _ => 0))), ((n 0), .inr (5, [.int 0, .int 0, .int 3, .int 8, .int 4, .int 4, .int 0, .int 0, .int 0, .int 0, .int 0, .ref (n 1), .ref (n 2), .ref (n 3), .ref (n 4), .ref (n 5)])), ((n 1), .inl (k 0, 10, .inl (fun _ => 0))), ((n 2), .inl (k 0, 10, .inl (fun _ => 0))), ((n 3), .inl (k 0, 60, .inl (fun _ => 0)))]) (wr := [((t 0), .inr (6, [.ref (t 1), .int 0, .ref (n 0), .ref (v 0), .ref (t 2), .ref (t 3), .ref (t 4), .ref (t 5), .ref (d 0), .ref (t 6), .ref (t 7)])), ((t 2), .inl (k 4, 2, .inr (.inr (.inr (.inr (va_rs [(i0 0), (i1 0)])))))), ((t 3), .inl (k 3, 2, .inl (fun _ => 0))), ((i1 0), .inr (5, [.int 0, .int 0, .int 3, .int 8, .int 4, .int 4, .int 0, .int 0, .int 0, .int 0, .int 0, .ref (i1 1), .ref (i1 2), .ref (i1 3), .ref (i1 4), .ref (i1 5)])), ((i1 1), .inl (k 0, 10, .inl (fun _ => 0))), ((i1 2), .inl (k 0, 10, .inl (fun _ => 0))), ((i1 3), .inl (k 0, 60, .inl (fun _ => 0)))]) ⟨hx, hb, hml, hown, hts⟩ (c_W_copyFrom l D k i0 n 0 0 _) (gV mw_275 mw_276 mw_277 mw_19 mw_278) hd_yX6_copyFrom rfl rfl ⟨Nat.le_of_ble_eq_true rfl, Nat.le_of_ble_eq_true rfl⟩ hK hP hD hS hA [3, 4, 5, 6, 11, 12, 13, 14] [0, 1, 2, 7, 8, 9, 10] rfl rfl (by decide) (by decide) (by decide) rfl rfl rfl rfl hl.1 rfl (Nat.le_of_ble_eq_true rfl) dX7_image_22 ⟨Nat.le_of_ble_eq_true rfl, Nat.le_of_ble_eq_true rfl⟩ (fun u_6 H locs hw hP hD hS => ?_)
        have hP : va_P D vwCl [((t 0), .inr (6, [.ref (t 1), .int 0, .ref (n 0), .ref (v 0), .ref (t 2), .ref (t 3), .ref (t 4), .ref (t 5), .ref (d 0), .ref (t 6), .ref (t 7)])), ((t 2), .inl (k 4, 2, .inr (.inr (.inr (.inr (va_rs [(i0 0), (i1 0)])))))), ((t 3), .inl (k 3, 2, .inl (fun _ => 0))), ((i1 0), .inr (5, [.int 0, .int 0, .int 3, .int 8, .int 4, .int 4, .int 0, .int 0, .int 0, .int 0, .int 0, .ref (i1 1), .ref (i1 2), .ref (i1 3), .ref (i1 4), .ref (i1 5)])), ((i1 1), .inl (k 0, 10, .inl (fun _ => 0))), ((i1 2), .inl (k 0, 10, .inl (fun _ => 0))), ((i1 3), .inl (k 0, 60, .inl (fun _ => 0))), ((i0 0), .inr (5, [.int 0, .int 0, .int 3, .int 8, .int 4, .int 4, .int 0, .int 0, .int 0, .int 0, .int 0, .ref (i0 1), .ref (i0 2), .ref (i0 3), .ref (i0 4), .ref (i0 5)])), ((i0 1), .inl (k 0, 10, .inl (fun _ => 0))), ((i0 2), .inl (k 0, 10, .inl (fun _ => 0))), ((i0 3), .inl (k 0, 60, .inl (fun _ => 0))), ((n 0), .inr (5, [.int 0, .int 0, .int 3, .int 8, .int 4, .int 4, .int 0, .int 0, .int 0, .int 0, .int 0, .ref (n 1), .ref (n 2), .ref (n 3), .ref (n 4), .ref (n 5)])), ((n 1), .inl (k 0, 10, .inl (fun _ => 0))), ((n 2), .inl (k 0, 10, .inl (fun _ => 0))), ((n 3), .inl (k 0, 60, .inl (fun _ => 0)))] H := hP
        have hD : va_D A [((t 0), .inr (6, [.ref (t 1), .int 0, .ref (n 0), .ref (v 0), .ref (t 2), .ref (t 3), .ref (t 4), .ref (t 5), .ref (d 0), .ref (t 6), .ref (t 7)])), ((t 2), .inl (k 4, 2, .inr (.inr (.inr (.inr (va_rs [(i0 0), (i1 0)])))))), ((t 3), .inl (k 3, 2, .inl (fun _ => 0))), ((i1 0), .inr (5, [.int 0, .int 0, .int 3, .int 8, .int 4, .int 4, .int 0, .int 0, .int 0, .int 0, .int 0, .ref (i1 1), .ref (i1 2), .ref (i1 3), .ref (i1 4), .ref (i1 5)])), ((i1 1), .inl (k 0, 10, .inl (fun _ => 0))), ((i1 2), .inl (k 0, 10, .inl (fun _ => 0))), ((i1 3), .inl (k 0, 60, .inl (fun _ => 0))), ((i0 0), .inr (5, [.int 0, .int 0, .int 3, .int 8, .int 4, .int 4, .int 0, .int 0, .int 0, .int 0, .int 0, .ref (i0 1), .ref (i0 2), .ref (i0 3), .ref (i0 4), .ref (i0 5)])), ((i0 1), .inl (k 0, 10, .inl (fun _ => 0))), ((i0 2), .inl (k 0, 10, .inl (fun _ => 0))), ((i0 3), .inl (k 0, 60, .inl (fun _ => 0))), ((n 0), .inr (5, [.int 0, .int 0, .int 3, .int 8, .int 4, .int 4, .int 0, .int 0, .int 0, .int 0, .int 0, .ref (n 1), .ref (n 2), .ref (n 3), .ref (n 4), .ref (n 5)])), ((n 1), .inl (k 0, 10, .inl (fun _ => 0))), ((n 2), .inl (k 0, 10, .inl (fun _ => 0))), ((n 3), .inl (k 0, 60, .inl (fun _ => 0)))] := hD
        refine lv_aload_n hx hb dX7_image_25 rfl (lv_at hl 0 rfl) ?_
        refine va_get (D := D) (ci := 6) (v := .ref (t 3)) (C := RX7) (T := TX7) (N := 11) hx hb hts inlX7 hown hK hP 0 rfl rfl 5 (by decide) (hts _ mw_24) (fun _ h9 => h9) rfl dX7_image_26 ?_
        refine lv_iload_n hx hb dX7_image_29 rfl (lv_at hl 1 rfl) ?_
        refine lv_ni (v := 0) (qc_3) ?_
        refine lv_iconst (v := 1) hx hb dX7_image_30 (by decide) ?_
        refine va_zast hx hb hK hP hD hS 2 3 rfl rfl (vp_in_c (by decide)) dX7_image_31 (fun H locs hP hD hS => ?_)
        have hP : va_P D vwCl [((t 0), .inr (6, [.ref (t 1), .int 0, .ref (n 0), .ref (v 0), .ref (t 2), .ref (t 3), .ref (t 4), .ref (t 5), .ref (d 0), .ref (t 6), .ref (t 7)])), ((t 2), .inl (k 4, 2, .inr (.inr (.inr (.inr (va_rs [(i0 0), (i1 0)])))))), ((t 3), .inl (k 3, 2, .inl (upd (fun _ => 0) (0 : Int32).toNatClampNeg (vp_nar .boolean 1)))), ((i1 0), .inr (5, [.int 0, .int 0, .int 3, .int 8, .int 4, .int 4, .int 0, .int 0, .int 0, .int 0, .int 0, .ref (i1 1), .ref (i1 2), .ref (i1 3), .ref (i1 4), .ref (i1 5)])), ((i1 1), .inl (k 0, 10, .inl (fun _ => 0))), ((i1 2), .inl (k 0, 10, .inl (fun _ => 0))), ((i1 3), .inl (k 0, 60, .inl (fun _ => 0))), ((i0 0), .inr (5, [.int 0, .int 0, .int 3, .int 8, .int 4, .int 4, .int 0, .int 0, .int 0, .int 0, .int 0, .ref (i0 1), .ref (i0 2), .ref (i0 3), .ref (i0 4), .ref (i0 5)])), ((i0 1), .inl (k 0, 10, .inl (fun _ => 0))), ((i0 2), .inl (k 0, 10, .inl (fun _ => 0))), ((i0 3), .inl (k 0, 60, .inl (fun _ => 0))), ((n 0), .inr (5, [.int 0, .int 0, .int 3, .int 8, .int 4, .int 4, .int 0, .int 0, .int 0, .int 0, .int 0, .ref (n 1), .ref (n 2), .ref (n 3), .ref (n 4), .ref (n 5)])), ((n 1), .inl (k 0, 10, .inl (fun _ => 0))), ((n 2), .inl (k 0, 10, .inl (fun _ => 0))), ((n 3), .inl (k 0, 60, .inl (fun _ => 0)))] H := hP
        have hD : va_D A [((t 0), .inr (6, [.ref (t 1), .int 0, .ref (n 0), .ref (v 0), .ref (t 2), .ref (t 3), .ref (t 4), .ref (t 5), .ref (d 0), .ref (t 6), .ref (t 7)])), ((t 2), .inl (k 4, 2, .inr (.inr (.inr (.inr (va_rs [(i0 0), (i1 0)])))))), ((t 3), .inl (k 3, 2, .inl (upd (fun _ => 0) (0 : Int32).toNatClampNeg (vp_nar .boolean 1)))), ((i1 0), .inr (5, [.int 0, .int 0, .int 3, .int 8, .int 4, .int 4, .int 0, .int 0, .int 0, .int 0, .int 0, .ref (i1 1), .ref (i1 2), .ref (i1 3), .ref (i1 4), .ref (i1 5)])), ((i1 1), .inl (k 0, 10, .inl (fun _ => 0))), ((i1 2), .inl (k 0, 10, .inl (fun _ => 0))), ((i1 3), .inl (k 0, 60, .inl (fun _ => 0))), ((i0 0), .inr (5, [.int 0, .int 0, .int 3, .int 8, .int 4, .int 4, .int 0, .int 0, .int 0, .int 0, .int 0, .ref (i0 1), .ref (i0 2), .ref (i0 3), .ref (i0 4), .ref (i0 5)])), ((i0 1), .inl (k 0, 10, .inl (fun _ => 0))), ((i0 2), .inl (k 0, 10, .inl (fun _ => 0))), ((i0 3), .inl (k 0, 60, .inl (fun _ => 0))), ((n 0), .inr (5, [.int 0, .int 0, .int 3, .int 8, .int 4, .int 4, .int 0, .int 0, .int 0, .int 0, .int 0, .ref (n 1), .ref (n 2), .ref (n 3), .ref (n 4), .ref (n 5)])), ((n 1), .inl (k 0, 10, .inl (fun _ => 0))), ((n 2), .inl (k 0, 10, .inl (fun _ => 0))), ((n 3), .inl (k 0, 60, .inl (fun _ => 0)))] := hD
        generalize ef_7 : (upd (fun _ => 0) (0 : Int32).toNatClampNeg (vp_nar .boolean 1)) = f_7 at hP hD
        refine lv_iconst (v := 0) hx hb dX7_image_32 (by decide) ?_
        have hP9 := hP.sub (ws' := []) [] rfl
        have hD9 := hD.sub (ws' := []) [] (by decide) rfl
        exact W.iret (v := 0) hx hb hr (fun t ht hW => ⟨⟨0, (), rfl, (by (repeat' split) <;> first | rfl | (exfalso; omega)), by rw [ht]; exact hP9, hD9⟩, hS.F ht⟩) hS.2.2 dX7_image_33
      · have qc_4 : a = 1 := ti_of (show a.toInt = 1 from c_4)
        refine lv_ni (v := 1) qc_4 ?_
        refine va_aldq hx hb hK hP 1 4 rfl rfl (vp_in_c (by decide)) dX7_image_17 ?_
        refine lv_nv (v := .ref (i1 0)) (rfl) ?_
        refine lv_aload_n hx hb dX7_image_18 rfl (lv_at hl 0 rfl) ?_
        refine va_get (D := D) (ci := 6) (v := .ref (n 0)) (C := RX7) (T := TX7) (N := 11) hx hb hts inlX7 hown hK hP 0 rfl rfl 2 (by decide) (hts _ mw_20) (fun _ h9 => h9) rfl dX7_image_19 ?_
        refine kV_uv (q0 := 0) (As := [.ref (n 0)]) (rest := []) (wc := [((i1 0), .inr (5, [.int 0, .int 0, .int 3, .int 8, .int 4, .int 4, .int 0, .int 0, .int 0, .int 0, .int 0, .ref (i1 1), .ref (i1 2), .ref (i1 3), .ref (i1 4), .ref (i1 5)])), ((i1 1), .inl (k 0, 10, .inl (fun _ => 0))), ((i1 2), .inl (k 0, 10, .inl (fun _ => 0))), ((i1 3), .inl (k 0, 60, .inl (fun _ => 0))), ((n 0), .inr (5, [.int 0, .int 0, .int 3, .int 8, .int 4, .int 4, .int 0, .int 0, .int 0, .int 0, .int 0, .ref (n 1), .ref (n 2), .ref (n 3), .ref (n 4), .ref (n 5)])), ((n 1), .inl (k 0, 10, .inl (fun _ => 0))), ((n 2), .inl (k 0, 10, .inl (fun _ => 0))), ((n 3), .inl (k 0, 60, .inl (fun _ => 0)))]) (wr := [((t 0), .inr (6, [.ref (t 1), .int 0, .ref (n 0), .ref (v 0), .ref (t 2), .ref (t 3), .ref (t 4), .ref (t 5), .ref (d 0), .ref (t 6), .ref (t 7)])), ((t 2), .inl (k 4, 2, .inr (.inr (.inr (.inr (va_rs [(i0 0), (i1 0)])))))), ((t 3), .inl (k 3, 2, .inl (fun _ => 0))), ((i0 0), .inr (5, [.int 0, .int 0, .int 3, .int 8, .int 4, .int 4, .int 0, .int 0, .int 0, .int 0, .int 0, .ref (i0 1), .ref (i0 2), .ref (i0 3), .ref (i0 4), .ref (i0 5)])), ((i0 1), .inl (k 0, 10, .inl (fun _ => 0))), ((i0 2), .inl (k 0, 10, .inl (fun _ => 0))), ((i0 3), .inl (k 0, 60, .inl (fun _ => 0)))]) ⟨hx, hb, hml, hown, hts⟩ (c_W_copyFrom l D k i1 n 0 0 _) (gV mw_275 mw_276 mw_277 mw_19 mw_278) hd_yX6_copyFrom rfl rfl ⟨Nat.le_of_ble_eq_true rfl, Nat.le_of_ble_eq_true rfl⟩ hK hP hD hS hA [7, 8, 9, 10, 11, 12, 13, 14] [0, 1, 2, 3, 4, 5, 6] rfl rfl (by decide) (by decide) (by decide) rfl rfl rfl rfl hl.1 rfl (Nat.le_of_ble_eq_true rfl) dX7_image_22 ⟨Nat.le_of_ble_eq_true rfl, Nat.le_of_ble_eq_true rfl⟩ (fun u_9 H locs hw hP hD hS => ?_)
        have hP : va_P D vwCl [((t 0), .inr (6, [.ref (t 1), .int 0, .ref (n 0), .ref (v 0), .ref (t 2), .ref (t 3), .ref (t 4), .ref (t 5), .ref (d 0), .ref (t 6), .ref (t 7)])), ((t 2), .inl (k 4, 2, .inr (.inr (.inr (.inr (va_rs [(i0 0), (i1 0)])))))), ((t 3), .inl (k 3, 2, .inl (fun _ => 0))), ((i0 0), .inr (5, [.int 0, .int 0, .int 3, .int 8, .int 4, .int 4, .int 0, .int 0, .int 0, .int 0, .int 0, .ref (i0 1), .ref (i0 2), .ref (i0 3), .ref (i0 4), .ref (i0 5)])), ((i0 1), .inl (k 0, 10, .inl (fun _ => 0))), ((i0 2), .inl (k 0, 10, .inl (fun _ => 0))), ((i0 3), .inl (k 0, 60, .inl (fun _ => 0))), ((i1 0), .inr (5, [.int 0, .int 0, .int 3, .int 8, .int 4, .int 4, .int 0, .int 0, .int 0, .int 0, .int 0, .ref (i1 1), .ref (i1 2), .ref (i1 3), .ref (i1 4), .ref (i1 5)])), ((i1 1), .inl (k 0, 10, .inl (fun _ => 0))), ((i1 2), .inl (k 0, 10, .inl (fun _ => 0))), ((i1 3), .inl (k 0, 60, .inl (fun _ => 0))), ((n 0), .inr (5, [.int 0, .int 0, .int 3, .int 8, .int 4, .int 4, .int 0, .int 0, .int 0, .int 0, .int 0, .ref (n 1), .ref (n 2), .ref (n 3), .ref (n 4), .ref (n 5)])), ((n 1), .inl (k 0, 10, .inl (fun _ => 0))), ((n 2), .inl (k 0, 10, .inl (fun _ => 0))), ((n 3), .inl (k 0, 60, .inl (fun _ => 0)))] H := hP
        have hD : va_D A [((t 0), .inr (6, [.ref (t 1), .int 0, .ref (n 0), .ref (v 0), .ref (t 2), .ref (t 3), .ref (t 4), .ref (t 5), .ref (d 0), .ref (t 6), .ref (t 7)])), ((t 2), .inl (k 4, 2, .inr (.inr (.inr (.inr (va_rs [(i0 0), (i1 0)])))))), ((t 3), .inl (k 3, 2, .inl (fun _ => 0))), ((i0 0), .inr (5, [.int 0, .int 0, .int 3, .int 8, .int 4, .int 4, .int 0, .int 0, .int 0, .int 0, .int 0, .ref (i0 1), .ref (i0 2), .ref (i0 3), .ref (i0 4), .ref (i0 5)])), ((i0 1), .inl (k 0, 10, .inl (fun _ => 0))), ((i0 2), .inl (k 0, 10, .inl (fun _ => 0))), ((i0 3), .inl (k 0, 60, .inl (fun _ => 0))), ((i1 0), .inr (5, [.int 0, .int 0, .int 3, .int 8, .int 4, .int 4, .int 0, .int 0, .int 0, .int 0, .int 0, .ref (i1 1), .ref (i1 2), .ref (i1 3), .ref (i1 4), .ref (i1 5)])), ((i1 1), .inl (k 0, 10, .inl (fun _ => 0))), ((i1 2), .inl (k 0, 10, .inl (fun _ => 0))), ((i1 3), .inl (k 0, 60, .inl (fun _ => 0))), ((n 0), .inr (5, [.int 0, .int 0, .int 3, .int 8, .int 4, .int 4, .int 0, .int 0, .int 0, .int 0, .int 0, .ref (n 1), .ref (n 2), .ref (n 3), .ref (n 4), .ref (n 5)])), ((n 1), .inl (k 0, 10, .inl (fun _ => 0))), ((n 2), .inl (k 0, 10, .inl (fun _ => 0))), ((n 3), .inl (k 0, 60, .inl (fun _ => 0)))] := hD
        refine lv_aload_n hx hb dX7_image_25 rfl (lv_at hl 0 rfl) ?_
        refine va_get (D := D) (ci := 6) (v := .ref (t 3)) (C := RX7) (T := TX7) (N := 11) hx hb hts inlX7 hown hK hP 0 rfl rfl 5 (by decide) (hts _ mw_24) (fun _ h9 => h9) rfl dX7_image_26 ?_
        refine lv_iload_n hx hb dX7_image_29 rfl (lv_at hl 1 rfl) ?_
        refine lv_ni (v := 1) (qc_4) ?_
        refine lv_iconst (v := 1) hx hb dX7_image_30 (by decide) ?_
        refine va_zast hx hb hK hP hD hS 2 3 rfl rfl (vp_in_c (by decide)) dX7_image_31 (fun H locs hP hD hS => ?_)
        have hP : va_P D vwCl [((t 0), .inr (6, [.ref (t 1), .int 0, .ref (n 0), .ref (v 0), .ref (t 2), .ref (t 3), .ref (t 4), .ref (t 5), .ref (d 0), .ref (t 6), .ref (t 7)])), ((t 2), .inl (k 4, 2, .inr (.inr (.inr (.inr (va_rs [(i0 0), (i1 0)])))))), ((t 3), .inl (k 3, 2, .inl (upd (fun _ => 0) (1 : Int32).toNatClampNeg (vp_nar .boolean 1)))), ((i0 0), .inr (5, [.int 0, .int 0, .int 3, .int 8, .int 4, .int 4, .int 0, .int 0, .int 0, .int 0, .int 0, .ref (i0 1), .ref (i0 2), .ref (i0 3), .ref (i0 4), .ref (i0 5)])), ((i0 1), .inl (k 0, 10, .inl (fun _ => 0))), ((i0 2), .inl (k 0, 10, .inl (fun _ => 0))), ((i0 3), .inl (k 0, 60, .inl (fun _ => 0))), ((i1 0), .inr (5, [.int 0, .int 0, .int 3, .int 8, .int 4, .int 4, .int 0, .int 0, .int 0, .int 0, .int 0, .ref (i1 1), .ref (i1 2), .ref (i1 3), .ref (i1 4), .ref (i1 5)])), ((i1 1), .inl (k 0, 10, .inl (fun _ => 0))), ((i1 2), .inl (k 0, 10, .inl (fun _ => 0))), ((i1 3), .inl (k 0, 60, .inl (fun _ => 0))), ((n 0), .inr (5, [.int 0, .int 0, .int 3, .int 8, .int 4, .int 4, .int 0, .int 0, .int 0, .int 0, .int 0, .ref (n 1), .ref (n 2), .ref (n 3), .ref (n 4), .ref (n 5)])), ((n 1), .inl (k 0, 10, .inl (fun _ => 0))), ((n 2), .inl (k 0, 10, .inl (fun _ => 0))), ((n 3), .inl (k 0, 60, .inl (fun _ => 0)))] H := hP
        have hD : va_D A [((t 0), .inr (6, [.ref (t 1), .int 0, .ref (n 0), .ref (v 0), .ref (t 2), .ref (t 3), .ref (t 4), .ref (t 5), .ref (d 0), .ref (t 6), .ref (t 7)])), ((t 2), .inl (k 4, 2, .inr (.inr (.inr (.inr (va_rs [(i0 0), (i1 0)])))))), ((t 3), .inl (k 3, 2, .inl (upd (fun _ => 0) (1 : Int32).toNatClampNeg (vp_nar .boolean 1)))), ((i0 0), .inr (5, [.int 0, .int 0, .int 3, .int 8, .int 4, .int 4, .int 0, .int 0, .int 0, .int 0, .int 0, .ref (i0 1), .ref (i0 2), .ref (i0 3), .ref (i0 4), .ref (i0 5)])), ((i0 1), .inl (k 0, 10, .inl (fun _ => 0))), ((i0 2), .inl (k 0, 10, .inl (fun _ => 0))), ((i0 3), .inl (k 0, 60, .inl (fun _ => 0))), ((i1 0), .inr (5, [.int 0, .int 0, .int 3, .int 8, .int 4, .int 4, .int 0, .int 0, .int 0, .int 0, .int 0, .ref (i1 1), .ref (i1 2), .ref (i1 3), .ref (i1 4), .ref (i1 5)])), ((i1 1), .inl (k 0, 10, .inl (fun _ => 0))), ((i1 2), .inl (k 0, 10, .inl (fun _ => 0))), ((i1 3), .inl (k 0, 60, .inl (fun _ => 0))), ((n 0), .inr (5, [.int 0, .int 0, .int 3, .int 8, .int 4, .int 4, .int 0, .int 0, .int 0, .int 0, .int 0, .ref (n 1), .ref (n 2), .ref (n 3), .ref (n 4), .ref (n 5)])), ((n 1), .inl (k 0, 10, .inl (fun _ => 0))), ((n 2), .inl (k 0, 10, .inl (fun _ => 0))), ((n 3), .inl (k 0, 60, .inl (fun _ => 0)))] := hD
        generalize ef_10 : (upd (fun _ => 0) (1 : Int32).toNatClampNeg (vp_nar .boolean 1)) = f_10 at hP hD
        refine lv_iconst (v := 0) hx hb dX7_image_32 (by decide) ?_
        have hP9 := hP.sub (ws' := []) [] rfl
        have hD9 := hD.sub (ws' := []) [] (by decide) rfl
        exact W.iret (v := 0) hx hb hr (fun t ht hW => ⟨⟨0, (), rfl, (by (repeat' split) <;> first | rfl | (exfalso; omega)), by rw [ht]; exact hP9, hD9⟩, hS.F ht⟩) hS.2.2 dX7_image_33
    · have c_2 : 2 ≤ a.toInt := ti_nlt c_2
      refine lv_bipush (v := (-2)) hx hb dX7_image_9 (by decide) ?_
      have hP9 := hP.sub (ws' := []) [] rfl
      have hD9 := hD.sub (ws' := []) [] (by decide) rfl
      exact W.iret (v := (-2)) hx hb hr (fun t ht hW => ⟨⟨(-2), (), rfl, (by (repeat' split) <;> first | rfl | (exfalso; omega)), by rw [ht]; exact hP9, hD9⟩, hS.F ht⟩) hS.2.2 dX7_image_11
set_option maxHeartbeats 4000000 in
set_option maxRecDepth 100000 in
theorem c_T_restore (l : Launch) (D : va_G) (k : Nat → ClassId) (t : Nat → Nat) (n : Nat → Nat) (v : Nat → Nat) (d : Nat → Nat) (a : Int32) : Met l yX7_restore (Cond.code yX7_restore cX7_restore 2 (some .int) :: wsL_law) ({ frames := 1, cells := 0, slots := 0, locals := 60 } : Room) (va_Pc [.ref (t 0), .int a] (pr D k [((t 0), .inr (6, [.ref (t 1), .int 0, .ref (n 0), .ref (v 0), .ref (t 2), .ref (t 3), .ref (t 4), .ref (t 5), .ref (d 0), .ref (t 6), .ref (t 7)])), ((t 3), .inl (k 3, 2, .inl (fun _ => 0)))])) (vp_Si (fun rr => rr = if 0 ≤ a.toInt ∧ a.toInt ≤ 1 then (-5) else (-2))) 0 0 (fun _ => False) := by
  refine Met.ofW (cc := cX7_restore) (maxL := 2) (ret := (some .int)) (by decide) rfl ?_
  intro p e s m args below meth c s₁ B hml hv
  obtain ⟨rfl, hP, hK⟩ := hv
  have hx := B.exec
  have hb := B.bytes
  have hr := B.returns
  have hts : ∀ w ∈ wsL_law, w.before _ s = true := fun w h => atoms_spec (ws := Cond.code yX7_restore cX7_restore 2 (some .int) :: wsL_law) B.pre w (List.mem_cons_of_mem _ h)
  have hown : s.vm.findClass RX7 = some m.cls := findClass_of_methodNamed B.named
  have hlocks := B.notSynchronized
  have hP : va_P D vwCl [((t 0), .inr (6, [.ref (t 1), .int 0, .ref (n 0), .ref (v 0), .ref (t 2), .ref (t 3), .ref (t 4), .ref (t 5), .ref (d 0), .ref (t 6), .ref (t 7)])), ((t 3), .inl (k 3, 2, .inl (fun _ => 0)))] s.heap := hP
  have hl := lv_entry ([.ref (t 0), .int a]) (n := 2) (Nat.le_of_ble_eq_true rfl)
  rw [lg_entry_eq]
  generalize (lg_sl ([.ref (t 0), .int a]) ++ List.replicate (2 - (lg_sl ([.ref (t 0), .int a])).length) Slot.unset).toArray = ls at hl ⊢
  have hl : lv_has ls 2 [(0, .ref (t 0)), (1, .int a)] := hl
  refine lv_iload_n hx hb dX7_restore_0 rfl (lv_at hl 1 rfl) ?_
  refine lv_if_lt (tgt := 9) hx hb dX7_restore_1 (by decide) (fun c_1 => ?_) (fun c_1 => ?_)
  · have c_1 : a.toInt < 0 := ti_lt c_1
    refine lv_bipush (v := (-2)) hx hb dX7_restore_9 (by decide) ?_
    exact W.iret (v := (-2)) hx hb hr (fun t ht hW => ⟨(-2), rfl, (by (repeat' split) <;> first | rfl | (exfalso; omega)), ht⟩) (fun q h => by cases h) dX7_restore_11
  · have c_1 : 0 ≤ a.toInt := ti_nlt c_1
    refine lv_iload_n hx hb dX7_restore_4 rfl (lv_at hl 1 rfl) ?_
    refine lv_iconst (v := 2) hx hb dX7_restore_5 (by decide) ?_
    refine lv_icmp_lt (tgt := 12) hx hb dX7_restore_6 (by decide) (fun c_2 => ?_) (fun c_2 => ?_)
    · have c_2 : a.toInt < 2 := ti_lt c_2
      refine lv_aload_n hx hb dX7_restore_12 rfl (lv_at hl 0 rfl) ?_
      refine va_get (D := D) (ci := 6) (v := .ref (t 3)) (C := RX7) (T := TX7) (N := 11) hx hb hts inlX7 hown hK hP 0 rfl rfl 5 (by decide) (hts _ mw_24) (fun _ h9 => h9) rfl dX7_restore_13 ?_
      refine lv_iload_n hx hb dX7_restore_16 rfl (lv_at hl 1 rfl) ?_
      refine va_zald hx hb hK hP 1 3 rfl rfl (vp_in_o (by omega) (by omega)) dX7_restore_17 ?_
      refine lv_ni (v := 0) (rfl) ?_
      refine lv_if_ne (tgt := 24) hx hb dX7_restore_18 (by decide) (fun c9 => absurd c9 (by decide)) (fun _ => ?_)
      refine lv_bipush (v := (-5)) hx hb dX7_restore_21 (by decide) ?_
      exact W.iret (v := (-5)) hx hb hr (fun t ht hW => ⟨(-5), rfl, (by (repeat' split) <;> first | rfl | (exfalso; omega)), ht⟩) (fun q h => by cases h) dX7_restore_23
    · have c_2 : 2 ≤ a.toInt := ti_nlt c_2
      refine lv_bipush (v := (-2)) hx hb dX7_restore_9 (by decide) ?_
      exact W.iret (v := (-2)) hx hb hr (fun t ht hW => ⟨(-2), rfl, (by (repeat' split) <;> first | rfl | (exfalso; omega)), ht⟩) (fun q h => by cases h) dX7_restore_11
set_option maxHeartbeats 4000000 in
set_option maxRecDepth 100000 in
theorem c_T_count (l : Launch) (D : va_G) (k : Nat → ClassId) (t : Nat → Nat) (n : Nat → Nat) (v : Nat → Nat) (d : Nat → Nat) (u : Nat → Nat) (a : Int32) : Met l yX7_count (Cond.code yX7_count cX7_count 2 (some .int) :: wsL_law) ({ frames := 1, cells := 0, slots := 0, locals := 60 } : Room) (va_Pc [.ref (t 0), .int a] (pr D k [((t 0), .inr (6, [.ref (t 1), .int 0, .ref (n 0), .ref (v 0), .ref (t 2), .ref (t 3), .ref (t 4), .ref (t 5), .ref (d 0), .ref (t 6), .ref (t 7)])), ((n 0), .inr (5, [.int 0, .int 0, .int 3, .int 8, .int 4, .int 4, .int 0, .int 0, .int 0, .int 0, .int 0, .ref (n 1), .ref (n 2), .ref (n 3), .ref (n 4), .ref (n 5)])), ((t 1), .inr (4, [.ref (u 0), .int 0, .int (-1), .int 0, .ref (t 8), .int 0, .int 0, .int 0, .int 0, .int 0]))])) (vp_Si (fun rr => rr = if a.toInt = 2 then 3 else if a.toInt = 3 then 8 else if a.toInt = 4 ∨ a.toInt = 5 then 4 else if 0 ≤ a.toInt ∧ a.toInt ≤ 13 then 0 else (-1))) 0 0 (fun _ => False) := by
  refine Met.ofW (cc := cX7_count) (maxL := 2) (ret := (some .int)) (by decide) rfl ?_
  intro p e s m args below meth c s₁ B hml hv
  obtain ⟨rfl, hP, hK⟩ := hv
  have hx := B.exec
  have hb := B.bytes
  have hr := B.returns
  have hts : ∀ w ∈ wsL_law, w.before _ s = true := fun w h => atoms_spec (ws := Cond.code yX7_count cX7_count 2 (some .int) :: wsL_law) B.pre w (List.mem_cons_of_mem _ h)
  have hown : s.vm.findClass RX7 = some m.cls := findClass_of_methodNamed B.named
  have hlocks := B.notSynchronized
  have hP : va_P D vwCl [((t 0), .inr (6, [.ref (t 1), .int 0, .ref (n 0), .ref (v 0), .ref (t 2), .ref (t 3), .ref (t 4), .ref (t 5), .ref (d 0), .ref (t 6), .ref (t 7)])), ((n 0), .inr (5, [.int 0, .int 0, .int 3, .int 8, .int 4, .int 4, .int 0, .int 0, .int 0, .int 0, .int 0, .ref (n 1), .ref (n 2), .ref (n 3), .ref (n 4), .ref (n 5)])), ((t 1), .inr (4, [.ref (u 0), .int 0, .int (-1), .int 0, .ref (t 8), .int 0, .int 0, .int 0, .int 0, .int 0]))] s.heap := hP
  have hl := lv_entry ([.ref (t 0), .int a]) (n := 2) (Nat.le_of_ble_eq_true rfl)
  rw [lg_entry_eq]
  generalize (lg_sl ([.ref (t 0), .int a]) ++ List.replicate (2 - (lg_sl ([.ref (t 0), .int a])).length) Slot.unset).toArray = ls at hl ⊢
  have hl : lv_has ls 2 [(0, .ref (t 0)), (1, .int a)] := hl
  refine lv_iload_n hx hb dX7_count_0 rfl (lv_at hl 1 rfl) ?_
  by_cases c_1 : a = 0
  · have qc_1 : a.toInt = 0 := ti_eq c_1
    refine lv_ni (v := 0) c_1 ?_
    refine lv_tableIn (off := 71) (tgt := 72) hx hb dX7_count_1 (by decide) (by decide) (by decide) (by decide) ?_
    refine lv_aload_n hx hb dX7_count_72 rfl (lv_at hl 0 rfl) ?_
    refine va_get (D := D) (ci := 6) (v := .ref (n 0)) (C := RX7) (T := TX7) (N := 11) hx hb hts inlX7 hown hK hP 0 rfl rfl 2 (by decide) (hts _ mw_20) (fun _ h9 => h9) rfl dX7_count_73 ?_
    refine va_get (D := D) (ci := 5) (v := .int 0) (C := RX6) (T := TX6) (N := 16) hx hb hts inlX6 hown hK hP 1 rfl rfl 0 (by decide) (hts _ mw_622) (fun _ h9 => h9) rfl dX7_count_76 ?_
    exact W.iret (v := 0) hx hb hr (fun t ht hW => ⟨0, rfl, (by (repeat' split) <;> first | rfl | (exfalso; omega)), ht⟩) (fun q h => by cases h) dX7_count_79
  have c_1 : a.toInt ≠ 0 := ti_ne c_1
  by_cases c_2 : a = 1
  · have qc_2 : a.toInt = 1 := ti_eq c_2
    refine lv_ni (v := 1) c_2 ?_
    refine lv_tableIn (off := 79) (tgt := 80) hx hb dX7_count_1 (by decide) (by decide) (by decide) (by decide) ?_
    refine lv_aload_n hx hb dX7_count_80 rfl (lv_at hl 0 rfl) ?_
    refine va_get (D := D) (ci := 6) (v := .ref (n 0)) (C := RX7) (T := TX7) (N := 11) hx hb hts inlX7 hown hK hP 0 rfl rfl 2 (by decide) (hts _ mw_20) (fun _ h9 => h9) rfl dX7_count_81 ?_
    refine va_get (D := D) (ci := 5) (v := .int 0) (C := RX6) (T := TX6) (N := 16) hx hb hts inlX6 hown hK hP 1 rfl rfl 1 (by decide) (hts _ mw_464) (fun _ h9 => h9) rfl dX7_count_84 ?_
    exact W.iret (v := 0) hx hb hr (fun t ht hW => ⟨0, rfl, (by (repeat' split) <;> first | rfl | (exfalso; omega)), ht⟩) (fun q h => by cases h) dX7_count_87
  have c_2 : a.toInt ≠ 1 := ti_ne c_2
  by_cases c_3 : a = 2
  · have qc_3 : a.toInt = 2 := ti_eq c_3
    refine lv_ni (v := 2) c_3 ?_
    refine lv_tableIn (off := 87) (tgt := 88) hx hb dX7_count_1 (by decide) (by decide) (by decide) (by decide) ?_
    refine lv_aload_n hx hb dX7_count_88 rfl (lv_at hl 0 rfl) ?_
    refine va_get (D := D) (ci := 6) (v := .ref (n 0)) (C := RX7) (T := TX7) (N := 11) hx hb hts inlX7 hown hK hP 0 rfl rfl 2 (by decide) (hts _ mw_20) (fun _ h9 => h9) rfl dX7_count_89 ?_
    refine va_get (D := D) (ci := 5) (v := .int 3) (C := RX6) (T := TX6) (N := 16) hx hb hts inlX6 hown hK hP 1 rfl rfl 2 (by decide) (hts _ mw_1187) (fun _ h9 => h9) rfl dX7_count_92 ?_
    exact W.iret (v := 3) hx hb hr (fun t ht hW => ⟨3, rfl, (by (repeat' split) <;> first | rfl | (exfalso; omega)), ht⟩) (fun q h => by cases h) dX7_count_95
  have c_3 : a.toInt ≠ 2 := ti_ne c_3
  by_cases c_4 : a = 3
  · have qc_4 : a.toInt = 3 := ti_eq c_4
    refine lv_ni (v := 3) c_4 ?_
    refine lv_tableIn (off := 95) (tgt := 96) hx hb dX7_count_1 (by decide) (by decide) (by decide) (by decide) ?_
    refine lv_aload_n hx hb dX7_count_96 rfl (lv_at hl 0 rfl) ?_
    refine va_get (D := D) (ci := 6) (v := .ref (n 0)) (C := RX7) (T := TX7) (N := 11) hx hb hts inlX7 hown hK hP 0 rfl rfl 2 (by decide) (hts _ mw_20) (fun _ h9 => h9) rfl dX7_count_97 ?_
    refine va_get (D := D) (ci := 5) (v := .int 8) (C := RX6) (T := TX6) (N := 16) hx hb hts inlX6 hown hK hP 1 rfl rfl 3 (by decide) (hts _ mw_1188) (fun _ h9 => h9) rfl dX7_count_100 ?_
    exact W.iret (v := 8) hx hb hr (fun t ht hW => ⟨8, rfl, (by (repeat' split) <;> first | rfl | (exfalso; omega)), ht⟩) (fun q h => by cases h) dX7_count_103
  have c_4 : a.toInt ≠ 3 := ti_ne c_4
  by_cases c_5 : a = 4
  · have qc_5 : a.toInt = 4 := ti_eq c_5
    refine lv_ni (v := 4) c_5 ?_
    refine lv_tableIn (off := 103) (tgt := 104) hx hb dX7_count_1 (by decide) (by decide) (by decide) (by decide) ?_
    refine lv_aload_n hx hb dX7_count_104 rfl (lv_at hl 0 rfl) ?_
    refine va_get (D := D) (ci := 6) (v := .ref (n 0)) (C := RX7) (T := TX7) (N := 11) hx hb hts inlX7 hown hK hP 0 rfl rfl 2 (by decide) (hts _ mw_20) (fun _ h9 => h9) rfl dX7_count_105 ?_
    refine va_get (D := D) (ci := 5) (v := .int 4) (C := RX6) (T := TX6) (N := 16) hx hb hts inlX6 hown hK hP 1 rfl rfl 4 (by decide) (hts _ mw_1189) (fun _ h9 => h9) rfl dX7_count_108 ?_
    exact W.iret (v := 4) hx hb hr (fun t ht hW => ⟨4, rfl, (by (repeat' split) <;> first | rfl | (exfalso; omega)), ht⟩) (fun q h => by cases h) dX7_count_111
  have c_5 : a.toInt ≠ 4 := ti_ne c_5
  by_cases c_6 : a = 5
  · have qc_6 : a.toInt = 5 := ti_eq c_6
    refine lv_ni (v := 5) c_6 ?_
    refine lv_tableIn (off := 111) (tgt := 112) hx hb dX7_count_1 (by decide) (by decide) (by decide) (by decide) ?_
    refine lv_aload_n hx hb dX7_count_112 rfl (lv_at hl 0 rfl) ?_
    refine va_get (D := D) (ci := 6) (v := .ref (n 0)) (C := RX7) (T := TX7) (N := 11) hx hb hts inlX7 hown hK hP 0 rfl rfl 2 (by decide) (hts _ mw_20) (fun _ h9 => h9) rfl dX7_count_113 ?_
    refine va_get (D := D) (ci := 5) (v := .int 4) (C := RX6) (T := TX6) (N := 16) hx hb hts inlX6 hown hK hP 1 rfl rfl 5 (by decide) (hts _ mw_929) (fun _ h9 => h9) rfl dX7_count_116 ?_
    exact W.iret (v := 4) hx hb hr (fun t ht hW => ⟨4, rfl, (by (repeat' split) <;> first | rfl | (exfalso; omega)), ht⟩) (fun q h => by cases h) dX7_count_119
  have c_6 : a.toInt ≠ 5 := ti_ne c_6
  by_cases c_7 : a = 6
  · have qc_7 : a.toInt = 6 := ti_eq c_7
    refine lv_ni (v := 6) c_7 ?_
    refine lv_tableIn (off := 119) (tgt := 120) hx hb dX7_count_1 (by decide) (by decide) (by decide) (by decide) ?_
    refine lv_aload_n hx hb dX7_count_120 rfl (lv_at hl 0 rfl) ?_
    refine va_get (D := D) (ci := 6) (v := .ref (n 0)) (C := RX7) (T := TX7) (N := 11) hx hb hts inlX7 hown hK hP 0 rfl rfl 2 (by decide) (hts _ mw_20) (fun _ h9 => h9) rfl dX7_count_121 ?_
    refine kV_i (q0 := 0) (As := []) (rest := []) (cs := [((n 0), .inr (5, [.int 0, .int 0, .int 3, .int 8, .int 4, .int 4, .int 0, .int 0, .int 0, .int 0, .int 0, .ref (n 1), .ref (n 2), .ref (n 3), .ref (n 4), .ref (n 5)]))]) ⟨hx, hb, hml, hown, hts⟩ (c_W_layersInAll l D k n 0) (gV mw_1191 mw_1192 mw_1193 mw_19 mw_1194) hd_yX6_layersInAll rfl rfl ⟨Nat.le_of_ble_eq_true rfl, Nat.le_of_ble_eq_true rfl⟩ hK (hP.sub (ws' := [((n 0), .inr (5, [.int 0, .int 0, .int 3, .int 8, .int 4, .int 4, .int 0, .int 0, .int 0, .int 0, .int 0, .ref (n 1), .ref (n 2), .ref (n 3), .ref (n 4), .ref (n 5)]))]) [1] rfl) rfl rfl rfl rfl hl.1 rfl (Nat.le_of_ble_eq_true rfl) dX7_count_124 ⟨Nat.le_of_ble_eq_true rfl, Nat.le_of_ble_eq_true rfl⟩ (fun r_8 hr_8 => ?_)
    obtain rfl : r_8 = 0 := hr_8
    exact W.iret (v := 0) hx hb hr (fun t ht hW => ⟨0, rfl, (by (repeat' split) <;> first | rfl | (exfalso; omega)), ht⟩) (fun q h => by cases h) dX7_count_127
  have c_7 : a.toInt ≠ 6 := ti_ne c_7
  by_cases c_9 : a = 7
  · have qc_9 : a.toInt = 7 := ti_eq c_9
    refine lv_ni (v := 7) c_9 ?_
    refine lv_tableIn (off := 127) (tgt := 128) hx hb dX7_count_1 (by decide) (by decide) (by decide) (by decide) ?_
    refine lv_aload_n hx hb dX7_count_128 rfl (lv_at hl 0 rfl) ?_
    refine va_get (D := D) (ci := 6) (v := .ref (n 0)) (C := RX7) (T := TX7) (N := 11) hx hb hts inlX7 hown hK hP 0 rfl rfl 2 (by decide) (hts _ mw_20) (fun _ h9 => h9) rfl dX7_count_129 ?_
    refine kV_i (q0 := 0) (As := []) (rest := []) (cs := [((n 0), .inr (5, [.int 0, .int 0, .int 3, .int 8, .int 4, .int 4, .int 0, .int 0, .int 0, .int 0, .int 0, .ref (n 1), .ref (n 2), .ref (n 3), .ref (n 4), .ref (n 5)]))]) ⟨hx, hb, hml, hown, hts⟩ (c_W_sparksInAll l D k n 0) (gV mw_886 mw_887 mw_888 mw_19 mw_889) hd_yX6_sparksInAll rfl rfl ⟨Nat.le_of_ble_eq_true rfl, Nat.le_of_ble_eq_true rfl⟩ hK (hP.sub (ws' := [((n 0), .inr (5, [.int 0, .int 0, .int 3, .int 8, .int 4, .int 4, .int 0, .int 0, .int 0, .int 0, .int 0, .ref (n 1), .ref (n 2), .ref (n 3), .ref (n 4), .ref (n 5)]))]) [1] rfl) rfl rfl rfl rfl hl.1 rfl (Nat.le_of_ble_eq_true rfl) dX7_count_132 ⟨Nat.le_of_ble_eq_true rfl, Nat.le_of_ble_eq_true rfl⟩ (fun r_10 hr_10 => ?_)
    obtain rfl : r_10 = 0 := hr_10
    exact W.iret (v := 0) hx hb hr (fun t ht hW => ⟨0, rfl, (by (repeat' split) <;> first | rfl | (exfalso; omega)), ht⟩) (fun q h => by cases h) dX7_count_135
  have c_9 : a.toInt ≠ 7 := ti_ne c_9
  by_cases c_11 : a = 8
  · have qc_11 : a.toInt = 8 := ti_eq c_11
    refine lv_ni (v := 8) c_11 ?_
    refine lv_tableIn (off := 135) (tgt := 136) hx hb dX7_count_1 (by decide) (by decide) (by decide) (by decide) ?_
    refine lv_aload_n hx hb dX7_count_136 rfl (lv_at hl 0 rfl) ?_
    refine va_get (D := D) (ci := 6) (v := .ref (n 0)) (C := RX7) (T := TX7) (N := 11) hx hb hts inlX7 hown hK hP 0 rfl rfl 2 (by decide) (hts _ mw_20) (fun _ h9 => h9) rfl dX7_count_137 ?_
    refine kV_i (q0 := 0) (As := []) (rest := []) (cs := [((n 0), .inr (5, [.int 0, .int 0, .int 3, .int 8, .int 4, .int 4, .int 0, .int 0, .int 0, .int 0, .int 0, .ref (n 1), .ref (n 2), .ref (n 3), .ref (n 4), .ref (n 5)]))]) ⟨hx, hb, hml, hown, hts⟩ (c_W_miceInAll l D k n 0) (gV mw_834 mw_835 mw_836 mw_19 mw_837) hd_yX6_miceInAll rfl rfl ⟨Nat.le_of_ble_eq_true rfl, Nat.le_of_ble_eq_true rfl⟩ hK (hP.sub (ws' := [((n 0), .inr (5, [.int 0, .int 0, .int 3, .int 8, .int 4, .int 4, .int 0, .int 0, .int 0, .int 0, .int 0, .ref (n 1), .ref (n 2), .ref (n 3), .ref (n 4), .ref (n 5)]))]) [1] rfl) rfl rfl rfl rfl hl.1 rfl (Nat.le_of_ble_eq_true rfl) dX7_count_140 ⟨Nat.le_of_ble_eq_true rfl, Nat.le_of_ble_eq_true rfl⟩ (fun r_12 hr_12 => ?_)
    obtain rfl : r_12 = 0 := hr_12
    exact W.iret (v := 0) hx hb hr (fun t ht hW => ⟨0, rfl, (by (repeat' split) <;> first | rfl | (exfalso; omega)), ht⟩) (fun q h => by cases h) dX7_count_143
  have c_11 : a.toInt ≠ 8 := ti_ne c_11
  by_cases c_13 : a = 9
  · have qc_13 : a.toInt = 9 := ti_eq c_13
    refine lv_ni (v := 9) c_13 ?_
    refine lv_tableIn (off := 143) (tgt := 144) hx hb dX7_count_1 (by decide) (by decide) (by decide) (by decide) ?_
    refine lv_aload_n hx hb dX7_count_144 rfl (lv_at hl 0 rfl) ?_
    refine va_get (D := D) (ci := 6) (v := .ref (n 0)) (C := RX7) (T := TX7) (N := 11) hx hb hts inlX7 hown hK hP 0 rfl rfl 2 (by decide) (hts _ mw_20) (fun _ h9 => h9) rfl dX7_count_145 ?_
    refine kV_i (q0 := 0) (As := []) (rest := []) (cs := [((n 0), .inr (5, [.int 0, .int 0, .int 3, .int 8, .int 4, .int 4, .int 0, .int 0, .int 0, .int 0, .int 0, .ref (n 1), .ref (n 2), .ref (n 3), .ref (n 4), .ref (n 5)]))]) ⟨hx, hb, hml, hown, hts⟩ (c_W_laidInAll l D k n 0) (gV mw_584 mw_585 mw_586 mw_19 mw_587) hd_yX6_laidInAll rfl rfl ⟨Nat.le_of_ble_eq_true rfl, Nat.le_of_ble_eq_true rfl⟩ hK (hP.sub (ws' := [((n 0), .inr (5, [.int 0, .int 0, .int 3, .int 8, .int 4, .int 4, .int 0, .int 0, .int 0, .int 0, .int 0, .ref (n 1), .ref (n 2), .ref (n 3), .ref (n 4), .ref (n 5)]))]) [1] rfl) rfl rfl rfl rfl hl.1 rfl (Nat.le_of_ble_eq_true rfl) dX7_count_148 ⟨Nat.le_of_ble_eq_true rfl, Nat.le_of_ble_eq_true rfl⟩ (fun r_14 hr_14 => ?_)
    obtain rfl : r_14 = 0 := hr_14
    exact W.iret (v := 0) hx hb hr (fun t ht hW => ⟨0, rfl, (by (repeat' split) <;> first | rfl | (exfalso; omega)), ht⟩) (fun q h => by cases h) dX7_count_151
  have c_13 : a.toInt ≠ 9 := ti_ne c_13
  by_cases c_15 : a = 10
  · have qc_15 : a.toInt = 10 := ti_eq c_15
    refine lv_ni (v := 10) c_15 ?_
    refine lv_tableIn (off := 151) (tgt := 152) hx hb dX7_count_1 (by decide) (by decide) (by decide) (by decide) ?_
    refine lv_aload_n hx hb dX7_count_152 rfl (lv_at hl 0 rfl) ?_
    refine va_get (D := D) (ci := 6) (v := .ref (n 0)) (C := RX7) (T := TX7) (N := 11) hx hb hts inlX7 hown hK hP 0 rfl rfl 2 (by decide) (hts _ mw_20) (fun _ h9 => h9) rfl dX7_count_153 ?_
    refine va_get (D := D) (ci := 5) (v := .int 0) (C := RX6) (T := TX6) (N := 16) hx hb hts inlX6 hown hK hP 1 rfl rfl 6 (by decide) (hts _ mw_1190) (fun _ h9 => h9) rfl dX7_count_156 ?_
    refine lv_if_eq (tgt := 166) hx hb dX7_count_159 (by decide) (fun _ => ?_) (fun c9 => absurd c9 (by decide))
    refine lv_iconst (v := 0) hx hb dX7_count_166 (by decide) ?_
    exact W.iret (v := 0) hx hb hr (fun t ht hW => ⟨0, rfl, (by (repeat' split) <;> first | rfl | (exfalso; omega)), ht⟩) (fun q h => by cases h) dX7_count_167
  have c_15 : a.toInt ≠ 10 := ti_ne c_15
  by_cases c_16 : a = 11
  · have qc_16 : a.toInt = 11 := ti_eq c_16
    refine lv_ni (v := 11) c_16 ?_
    refine lv_tableIn (off := 167) (tgt := 168) hx hb dX7_count_1 (by decide) (by decide) (by decide) (by decide) ?_
    refine lv_aload_n hx hb dX7_count_168 rfl (lv_at hl 0 rfl) ?_
    refine va_get (D := D) (ci := 6) (v := .ref (t 1)) (C := RX7) (T := TX7) (N := 11) hx hb hts inlX7 hown hK hP 0 rfl rfl 0 (by decide) (hts _ mw_16) (fun _ h9 => h9) rfl dX7_count_169 ?_
    refine va_get (D := D) (ci := 4) (v := .int 0) (C := RX5) (T := TX5) (N := 10) hx hb hts inlX5 hown hK hP 2 rfl rfl 3 (by decide) (hts _ mw_115) (fun _ h9 => h9) rfl dX7_count_172 ?_
    exact W.iret (v := 0) hx hb hr (fun t ht hW => ⟨0, rfl, (by (repeat' split) <;> first | rfl | (exfalso; omega)), ht⟩) (fun q h => by cases h) dX7_count_175
  have c_16 : a.toInt ≠ 11 := ti_ne c_16
  by_cases c_17 : a = 12
  · have qc_17 : a.toInt = 12 := ti_eq c_17
    refine lv_ni (v := 12) c_17 ?_
    refine lv_tableIn (off := 175) (tgt := 176) hx hb dX7_count_1 (by decide) (by decide) (by decide) (by decide) ?_
    refine lv_aload_n hx hb dX7_count_176 rfl (lv_at hl 0 rfl) ?_
    refine va_get (D := D) (ci := 6) (v := .ref (n 0)) (C := RX7) (T := TX7) (N := 11) hx hb hts inlX7 hown hK hP 0 rfl rfl 2 (by decide) (hts _ mw_20) (fun _ h9 => h9) rfl dX7_count_177 ?_
    refine va_get (D := D) (ci := 5) (v := .int 0) (C := RX6) (T := TX6) (N := 16) hx hb hts inlX6 hown hK hP 1 rfl rfl 9 (by decide) (hts _ mw_135) (fun _ h9 => h9) rfl dX7_count_180 ?_
    exact W.iret (v := 0) hx hb hr (fun t ht hW => ⟨0, rfl, (by (repeat' split) <;> first | rfl | (exfalso; omega)), ht⟩) (fun q h => by cases h) dX7_count_183
  have c_17 : a.toInt ≠ 12 := ti_ne c_17
  by_cases c_18 : a = 13
  · have qc_18 : a.toInt = 13 := ti_eq c_18
    refine lv_ni (v := 13) c_18 ?_
    refine lv_tableIn (off := 183) (tgt := 184) hx hb dX7_count_1 (by decide) (by decide) (by decide) (by decide) ?_
    refine lv_aload_n hx hb dX7_count_184 rfl (lv_at hl 0 rfl) ?_
    refine va_get (D := D) (ci := 6) (v := .ref (n 0)) (C := RX7) (T := TX7) (N := 11) hx hb hts inlX7 hown hK hP 0 rfl rfl 2 (by decide) (hts _ mw_20) (fun _ h9 => h9) rfl dX7_count_185 ?_
    refine kV_i (q0 := 0) (As := []) (rest := []) (cs := [((n 0), .inr (5, [.int 0, .int 0, .int 3, .int 8, .int 4, .int 4, .int 0, .int 0, .int 0, .int 0, .int 0, .ref (n 1), .ref (n 2), .ref (n 3), .ref (n 4), .ref (n 5)]))]) ⟨hx, hb, hml, hown, hts⟩ (c_W_wetInAll l D k n 0) (gV mw_1195 mw_1196 mw_1197 mw_19 mw_1198) hd_yX6_wetInAll rfl rfl ⟨Nat.le_of_ble_eq_true rfl, Nat.le_of_ble_eq_true rfl⟩ hK (hP.sub (ws' := [((n 0), .inr (5, [.int 0, .int 0, .int 3, .int 8, .int 4, .int 4, .int 0, .int 0, .int 0, .int 0, .int 0, .ref (n 1), .ref (n 2), .ref (n 3), .ref (n 4), .ref (n 5)]))]) [1] rfl) rfl rfl rfl rfl hl.1 rfl (Nat.le_of_ble_eq_true rfl) dX7_count_188 ⟨Nat.le_of_ble_eq_true rfl, Nat.le_of_ble_eq_true rfl⟩ (fun r_19 hr_19 => ?_)
    obtain rfl : r_19 = 0 := hr_19
    exact W.iret (v := 0) hx hb hr (fun t ht hW => ⟨0, rfl, (by (repeat' split) <;> first | rfl | (exfalso; omega)), ht⟩) (fun q h => by cases h) dX7_count_191
  have c_18 : a.toInt ≠ 13 := ti_ne c_18
  refine lv_tableOut (tgt := 192) hx hb dX7_count_1 (by omega) (by decide) ?_
  refine lv_iconst (v := (-1)) hx hb dX7_count_192 (by decide) ?_
  exact W.iret (v := (-1)) hx hb hr (fun t ht hW => ⟨(-1), rfl, (by (repeat' split) <;> first | rfl | (exfalso; omega)), ht⟩) (fun q h => by cases h) dX7_count_193
