theorem dX8_feed_0 : decode cX8_feed 0 = .ok (.aload_n 0, 1) := by decide +kernel
theorem dX8_feed_1 : decode cX8_feed 1 = .ok (.iconst 0, 1) := by decide +kernel
theorem dX8_feed_2 : decode cX8_feed 2 = .ok (.putfield 1, 3) := by decide +kernel
theorem mw_125 : Cond.fieldLink RX8 1 "ThatchNextModel" "thrown" "I" ∈ wsL_law := List.mem_of_getElem? (i := 125) (by decide +kernel)
theorem dX8_feed_5 : decode cX8_feed 5 = .ok (.aload_n 0, 1) := by decide +kernel
theorem dX8_feed_6 : decode cX8_feed 6 = .ok (.getfield 71, 3) := by decide +kernel
theorem mw_126 : Cond.fieldLink RX8 71 "ThatchNextModel" "taped" "I" ∈ wsL_law := List.mem_of_getElem? (i := 126) (by decide +kernel)
theorem dX8_feed_9 : decode cX8_feed 9 = .ok (.bipush 20, 2) := by decide +kernel
theorem dX8_feed_11 : decode cX8_feed 11 = .ok (.iadd, 1) := by decide +kernel
theorem dX8_feed_12 : decode cX8_feed 12 = .ok (.sipush 900, 3) := by decide +kernel
theorem dX8_feed_15 : decode cX8_feed 15 = .ok (.if_icmp .le 6, 3) := by decide +kernel
theorem dX8_feed_21 : decode cX8_feed 21 = .ok (.iconst 0, 1) := by decide +kernel
theorem dX8_feed_22 : decode cX8_feed 22 = .ok (.istore 6, 2) := by decide +kernel
theorem dX8_feed_24 : decode cX8_feed 24 = .ok (.iload 6, 2) := by decide +kernel
theorem dX8_feed_26 : decode cX8_feed 26 = .ok (.bipush 20, 2) := by decide +kernel
theorem dX8_feed_28 : decode cX8_feed 28 = .ok (.if_icmp .ge 93, 3) := by decide +kernel
theorem dX8_feed_121 : decode cX8_feed 121 = .ok (.aload_n 0, 1) := by decide +kernel
theorem dX8_feed_122 : decode cX8_feed 122 = .ok (.getfield 71, 3) := by decide +kernel
theorem dX8_feed_125 : decode cX8_feed 125 = .ok (.ireturn, 1) := by decide +kernel
theorem dX8_feed_31 : decode cX8_feed 31 = .ok (.iload 6, 2) := by decide +kernel
theorem dX8_feed_33 : decode cX8_feed 33 = .ok (.iconst 4, 1) := by decide +kernel
theorem dX8_feed_34 : decode cX8_feed 34 = .ok (.if_icmp .ge 7, 3) := by decide +kernel
theorem dX8_feed_41 : decode cX8_feed 41 = .ok (.iload 6, 2) := by decide +kernel
theorem dX8_feed_43 : decode cX8_feed 43 = .ok (.bipush 8, 2) := by decide +kernel
theorem dX8_feed_45 : decode cX8_feed 45 = .ok (.if_icmp .ge 7, 3) := by decide +kernel
theorem dX8_feed_52 : decode cX8_feed 52 = .ok (.iload 6, 2) := by decide +kernel
theorem dX8_feed_54 : decode cX8_feed 54 = .ok (.bipush 12, 2) := by decide +kernel
theorem dX8_feed_56 : decode cX8_feed 56 = .ok (.if_icmp .ge 7, 3) := by decide +kernel
theorem dX8_feed_63 : decode cX8_feed 63 = .ok (.iload 6, 2) := by decide +kernel
theorem dX8_feed_65 : decode cX8_feed 65 = .ok (.bipush 16, 2) := by decide +kernel
theorem dX8_feed_67 : decode cX8_feed 67 = .ok (.if_icmp .ge 8, 3) := by decide +kernel
theorem dX8_feed_75 : decode cX8_feed 75 = .ok (.iload 5, 2) := by decide +kernel
theorem dX8_feed_77 : decode cX8_feed 77 = .ok (.istore 7, 2) := by decide +kernel
theorem dX8_feed_79 : decode cX8_feed 79 = .ok (.aload_n 0, 1) := by decide +kernel
theorem dX8_feed_80 : decode cX8_feed 80 = .ok (.getfield 24, 3) := by decide +kernel
theorem mw_94 : Cond.fieldLink RX8 24 "ThatchNextModel" "tape" "[I" ∈ wsL_law := List.mem_of_getElem? (i := 94) (by decide +kernel)
theorem dX8_feed_83 : decode cX8_feed 83 = .ok (.aload_n 0, 1) := by decide +kernel
theorem dX8_feed_84 : decode cX8_feed 84 = .ok (.getfield 71, 3) := by decide +kernel
theorem dX8_feed_87 : decode cX8_feed 87 = .ok (.iload 7, 2) := by decide +kernel
theorem dX8_feed_89 : decode cX8_feed 89 = .ok (.bipush 24, 2) := by decide +kernel
theorem dX8_feed_91 : decode cX8_feed 91 = .ok (.bipush 8, 2) := by decide +kernel
theorem dX8_feed_93 : decode cX8_feed 93 = .ok (.iload 6, 2) := by decide +kernel
theorem dX8_feed_95 : decode cX8_feed 95 = .ok (.iconst 4, 1) := by decide +kernel
theorem dX8_feed_96 : decode cX8_feed 96 = .ok (.irem, 1) := by decide +kernel
theorem dX8_feed_97 : decode cX8_feed 97 = .ok (.imul, 1) := by decide +kernel
theorem dX8_feed_98 : decode cX8_feed 98 = .ok (.isub, 1) := by decide +kernel
theorem dX8_feed_99 : decode cX8_feed 99 = .ok (.ishr, 1) := by decide +kernel
theorem dX8_feed_100 : decode cX8_feed 100 = .ok (.sipush 255, 3) := by decide +kernel
theorem dX8_feed_103 : decode cX8_feed 103 = .ok (.iand, 1) := by decide +kernel
theorem dX8_feed_104 : decode cX8_feed 104 = .ok (.iastore, 1) := by decide +kernel
theorem dX8_feed_105 : decode cX8_feed 105 = .ok (.aload_n 0, 1) := by decide +kernel
theorem dX8_feed_106 : decode cX8_feed 106 = .ok (.dup, 1) := by decide +kernel
theorem dX8_feed_107 : decode cX8_feed 107 = .ok (.getfield 71, 3) := by decide +kernel
theorem dX8_feed_110 : decode cX8_feed 110 = .ok (.iconst 1, 1) := by decide +kernel
theorem dX8_feed_111 : decode cX8_feed 111 = .ok (.iadd, 1) := by decide +kernel
theorem dX8_feed_112 : decode cX8_feed 112 = .ok (.putfield 71, 3) := by decide +kernel
theorem dX8_feed_115 : decode cX8_feed 115 = .ok (.iinc 6 1, 3) := by decide +kernel
theorem dX8_feed_118 : decode cX8_feed 118 = .ok (.goto (-94), 3) := by decide +kernel
theorem dX8_feed_70 : decode cX8_feed 70 = .ok (.iload 4, 2) := by decide +kernel
theorem dX8_feed_72 : decode cX8_feed 72 = .ok (.goto 5, 3) := by decide +kernel
theorem dX8_feed_59 : decode cX8_feed 59 = .ok (.iload_n 3, 1) := by decide +kernel
theorem dX8_feed_60 : decode cX8_feed 60 = .ok (.goto 17, 3) := by decide +kernel
theorem dX8_feed_48 : decode cX8_feed 48 = .ok (.iload_n 2, 1) := by decide +kernel
theorem dX8_feed_49 : decode cX8_feed 49 = .ok (.goto 28, 3) := by decide +kernel
theorem dX8_feed_37 : decode cX8_feed 37 = .ok (.iload_n 1, 1) := by decide +kernel
theorem dX8_feed_38 : decode cX8_feed 38 = .ok (.goto 39, 3) := by decide +kernel
theorem dX8_row_0 : decode cX8_row 0 = .ok (.aload_n 0, 1) := by decide +kernel
theorem dX8_row_1 : decode cX8_row 1 = .ok (.iconst 0, 1) := by decide +kernel
theorem dX8_row_2 : decode cX8_row 2 = .ok (.putfield 1, 3) := by decide +kernel
theorem dX8_row_5 : decode cX8_row 5 = .ok (.iload_n 1, 1) := by decide +kernel
theorem dX8_row_6 : decode cX8_row 6 = .ok (.i2l, 1) := by decide +kernel
theorem dX8_row_7 : decode cX8_row 7 = .ok (.lconst 0, 1) := by decide +kernel
theorem dX8_row_8 : decode cX8_row 8 = .ok (.aload_n 0, 1) := by decide +kernel
theorem dX8_row_9 : decode cX8_row 9 = .ok (.getfield 71, 3) := by decide +kernel
theorem dX8_row_12 : decode cX8_row 12 = .ok (.i2l, 1) := by decide +kernel
theorem dX8_row_13 : decode cX8_row 13 = .ok (.invokestatic 131, 3) := by decide +kernel
theorem dX8_row_16 : decode cX8_row 16 = .ok (.ifCond .ne 6, 3) := by decide +kernel
theorem dX8_row_22 : decode cX8_row 22 = .ok (.aload_n 0, 1) := by decide +kernel
theorem dX8_row_23 : decode cX8_row 23 = .ok (.iload_n 1, 1) := by decide +kernel
theorem dX8_row_24 : decode cX8_row 24 = .ok (.putfield 74, 3) := by decide +kernel
theorem dX8_row_27 : decode cX8_row 27 = .ok (.aload_n 0, 1) := by decide +kernel
theorem dX8_row_28 : decode cX8_row 28 = .ok (.iconst 0, 1) := by decide +kernel
theorem dX8_row_29 : decode cX8_row 29 = .ok (.putfield 71, 3) := by decide +kernel
theorem dX8_row_32 : decode cX8_row 32 = .ok (.aload_n 0, 1) := by decide +kernel
theorem dX8_row_33 : decode cX8_row 33 = .ok (.iconst 0, 1) := by decide +kernel
theorem dX8_row_34 : decode cX8_row 34 = .ok (.putfield 92, 3) := by decide +kernel
theorem dX8_row_37 : decode cX8_row 37 = .ok (.aload_n 0, 1) := by decide +kernel
theorem dX8_row_38 : decode cX8_row 38 = .ok (.iconst 0, 1) := by decide +kernel
theorem dX8_row_39 : decode cX8_row 39 = .ok (.putfield 115, 3) := by decide +kernel
theorem mw_289 : Cond.fieldLink RX8 115 "ThatchNextModel" "wrong" "I" ∈ wsL_law := List.mem_of_getElem? (i := 289) (by decide +kernel)
theorem dX8_row_42 : decode cX8_row 42 = .ok (.aload_n 0, 1) := by decide +kernel
theorem dX8_row_43 : decode cX8_row 43 = .ok (.getfield 27, 3) := by decide +kernel
theorem mw_95 : Cond.fieldLink RX8 27 "ThatchNextModel" "fresh" "[I" ∈ wsL_law := List.mem_of_getElem? (i := 95) (by decide +kernel)
theorem dX8_row_46 : decode cX8_row 46 = .ok (.invokestatic 67, 3) := by decide +kernel
theorem hd_yX8_plain : HD yX8_plain RX8 1 := by decide +kernel
theorem mw_108 : Cond.methodLink RX8 67 yX8_plain ∈ wsL_law := List.mem_of_getElem? (i := 108) (by decide +kernel)
theorem mw_109 : Cond.static yX8_plain ∈ wsL_law := List.mem_of_getElem? (i := 109) (by decide +kernel)
theorem mw_110 : Cond.code yX8_plain cX8_plain 2 none ∈ wsL_law := List.mem_of_getElem? (i := 110) (by decide +kernel)
theorem dX8_row_49 : decode cX8_row 49 = .ok (.aload_n 0, 1) := by decide +kernel
theorem dX8_row_50 : decode cX8_row 50 = .ok (.invokevirtual 124, 3) := by decide +kernel
theorem hd_yX8_nextToken : HD yX8_nextToken RX8 0 := by decide +kernel
theorem mw_297 : Cond.methodLink RX8 124 yX8_nextToken ∈ wsL_law := List.mem_of_getElem? (i := 297) (by decide +kernel)
theorem mw_298 : Cond.instanceMethod yX8_nextToken ∈ wsL_law := List.mem_of_getElem? (i := 298) (by decide +kernel)
theorem mw_299 : Cond.selects RX8 yX8_nextToken yX8_nextToken ∈ wsL_law := List.mem_of_getElem? (i := 299) (by decide +kernel)
theorem mw_300 : Cond.code yX8_nextToken cX8_nextToken 1 none ∈ wsL_law := List.mem_of_getElem? (i := 300) (by decide +kernel)
theorem dX8_row_53 : decode cX8_row 53 = .ok (.aload_n 0, 1) := by decide +kernel
theorem dX8_row_54 : decode cX8_row 54 = .ok (.getfield 115, 3) := by decide +kernel
theorem dX8_row_57 : decode cX8_row 57 = .ok (.ifCond .ne 19, 3) := by decide +kernel
theorem dX8_row_60 : decode cX8_row 60 = .ok (.aload_n 0, 1) := by decide +kernel
theorem dX8_row_61 : decode cX8_row 61 = .ok (.getfield 99, 3) := by decide +kernel
theorem dX8_row_64 : decode cX8_row 64 = .ok (.bipush 13, 2) := by decide +kernel
theorem dX8_row_66 : decode cX8_row 66 = .ok (.if_icmp .eq 10, 3) := by decide +kernel
theorem dX8_row_76 : decode cX8_row 76 = .ok (.aload_n 0, 1) := by decide +kernel
theorem dX8_row_77 : decode cX8_row 77 = .ok (.aload_n 0, 1) := by decide +kernel
theorem dX8_row_78 : decode cX8_row 78 = .ok (.getfield 115, 3) := by decide +kernel
theorem dX8_row_81 : decode cX8_row 81 = .ok (.putfield 152, 3) := by decide +kernel
theorem mw_291 : Cond.fieldLink RX8 152 "ThatchNextModel" "faultKind" "I" ∈ wsL_law := List.mem_of_getElem? (i := 291) (by decide +kernel)
theorem dX8_row_84 : decode cX8_row 84 = .ok (.aload_n 0, 1) := by decide +kernel
theorem dX8_row_85 : decode cX8_row 85 = .ok (.aload_n 0, 1) := by decide +kernel
theorem dX8_row_86 : decode cX8_row 86 = .ok (.getfield 115, 3) := by decide +kernel
theorem dX8_row_89 : decode cX8_row 89 = .ok (.ifCond .ne 7, 3) := by decide +kernel
theorem dX8_row_92 : decode cX8_row 92 = .ok (.iconst (-1), 1) := by decide +kernel
theorem dX8_row_93 : decode cX8_row 93 = .ok (.goto 7, 3) := by decide +kernel
theorem dX8_row_100 : decode cX8_row 100 = .ok (.putfield 30, 3) := by decide +kernel
theorem mw_96 : Cond.fieldLink RX8 30 "ThatchNextModel" "faultPlace" "I" ∈ wsL_law := List.mem_of_getElem? (i := 96) (by decide +kernel)
theorem dX8_row_103 : decode cX8_row 103 = .ok (.aload_n 0, 1) := by decide +kernel
theorem dX8_row_104 : decode cX8_row 104 = .ok (.getfield 115, 3) := by decide +kernel
theorem dX8_row_107 : decode cX8_row 107 = .ok (.ifCond .eq 11, 3) := by decide +kernel
theorem dX8_row_118 : decode cX8_row 118 = .ok (.iconst 0, 1) := by decide +kernel
theorem dX8_row_119 : decode cX8_row 119 = .ok (.istore_n 2, 1) := by decide +kernel
theorem dX8_row_120 : decode cX8_row 120 = .ok (.iload_n 2, 1) := by decide +kernel
theorem dX8_row_121 : decode cX8_row 121 = .ok (.sipush 409, 3) := by decide +kernel
theorem dX8_row_124 : decode cX8_row 124 = .ok (.if_icmp .ge 21, 3) := by decide +kernel
theorem dX8_row_145 : decode cX8_row 145 = .ok (.aload_n 0, 1) := by decide +kernel
theorem dX8_row_146 : decode cX8_row 146 = .ok (.dup, 1) := by decide +kernel
theorem dX8_row_147 : decode cX8_row 147 = .ok (.getfield 155, 3) := by decide +kernel
theorem mw_293 : Cond.fieldLink RX8 155 "ThatchNextModel" "texts" "I" ∈ wsL_law := List.mem_of_getElem? (i := 293) (by decide +kernel)
theorem dX8_row_150 : decode cX8_row 150 = .ok (.iconst 1, 1) := by decide +kernel
theorem dX8_row_151 : decode cX8_row 151 = .ok (.iadd, 1) := by decide +kernel
theorem dX8_row_152 : decode cX8_row 152 = .ok (.putfield 155, 3) := by decide +kernel
theorem dX8_row_155 : decode cX8_row 155 = .ok (.aload_n 0, 1) := by decide +kernel
theorem dX8_row_156 : decode cX8_row 156 = .ok (.getfield 13, 3) := by decide +kernel
theorem dX8_row_159 : decode cX8_row 159 = .ok (.bipush 8, 2) := by decide +kernel
theorem dX8_row_161 : decode cX8_row 161 = .ok (.aload_n 0, 1) := by decide +kernel
theorem dX8_row_162 : decode cX8_row 162 = .ok (.getfield 155, 3) := by decide +kernel
theorem dX8_row_165 : decode cX8_row 165 = .ok (.iastore, 1) := by decide +kernel
theorem dX8_row_166 : decode cX8_row 166 = .ok (.aload_n 0, 1) := by decide +kernel
theorem dX8_row_167 : decode cX8_row 167 = .ok (.getfield 13, 3) := by decide +kernel
theorem dX8_row_170 : decode cX8_row 170 = .ok (.bipush 7, 2) := by decide +kernel
theorem dX8_row_172 : decode cX8_row 172 = .ok (.iaload, 1) := by decide +kernel
theorem dX8_row_173 : decode cX8_row 173 = .ok (.ireturn, 1) := by decide +kernel
theorem dX8_row_127 : decode cX8_row 127 = .ok (.aload_n 0, 1) := by decide +kernel
theorem dX8_row_128 : decode cX8_row 128 = .ok (.getfield 13, 3) := by decide +kernel
theorem dX8_row_131 : decode cX8_row 131 = .ok (.iload_n 2, 1) := by decide +kernel
theorem dX8_row_132 : decode cX8_row 132 = .ok (.aload_n 0, 1) := by decide +kernel
theorem dX8_row_133 : decode cX8_row 133 = .ok (.getfield 27, 3) := by decide +kernel
theorem dX8_row_136 : decode cX8_row 136 = .ok (.iload_n 2, 1) := by decide +kernel
theorem dX8_row_137 : decode cX8_row 137 = .ok (.iaload, 1) := by decide +kernel
theorem dX8_row_138 : decode cX8_row 138 = .ok (.iastore, 1) := by decide +kernel
theorem dX8_row_139 : decode cX8_row 139 = .ok (.iinc 2 1, 3) := by decide +kernel
theorem dX8_row_142 : decode cX8_row 142 = .ok (.goto (-22), 3) := by decide +kernel
theorem dX8_row_19 : decode cX8_row 19 = .ok (.bipush (-3), 2) := by decide +kernel
theorem dX8_row_21 : decode cX8_row 21 = .ok (.ireturn, 1) := by decide +kernel
theorem dX8_fault_0 : decode cX8_fault 0 = .ok (.aload_n 0, 1) := by decide +kernel
theorem dX8_fault_1 : decode cX8_fault 1 = .ok (.iconst 0, 1) := by decide +kernel
theorem dX8_fault_2 : decode cX8_fault 2 = .ok (.putfield 1, 3) := by decide +kernel
theorem dX8_fault_5 : decode cX8_fault 5 = .ok (.iload_n 1, 1) := by decide +kernel
theorem dX8_fault_6 : decode cX8_fault 6 = .ok (.ifCond .ne 10, 3) := by decide +kernel
theorem dX8_fault_16 : decode cX8_fault 16 = .ok (.iload_n 1, 1) := by decide +kernel
theorem dX8_fault_17 : decode cX8_fault 17 = .ok (.iconst 1, 1) := by decide +kernel
theorem dX8_fault_18 : decode cX8_fault 18 = .ok (.if_icmp .ne 10, 3) := by decide +kernel
theorem dX8_fault_28 : decode cX8_fault 28 = .ok (.iconst (-1), 1) := by decide +kernel
theorem dX8_fault_29 : decode cX8_fault 29 = .ok (.ireturn, 1) := by decide +kernel
theorem dX8_fault_21 : decode cX8_fault 21 = .ok (.aload_n 0, 1) := by decide +kernel
theorem dX8_fault_22 : decode cX8_fault 22 = .ok (.getfield 30, 3) := by decide +kernel
theorem dX8_fault_25 : decode cX8_fault 25 = .ok (.goto 4, 3) := by decide +kernel
theorem dX8_fault_9 : decode cX8_fault 9 = .ok (.aload_n 0, 1) := by decide +kernel
theorem dX8_fault_10 : decode cX8_fault 10 = .ok (.getfield 152, 3) := by decide +kernel
theorem dX8_fault_13 : decode cX8_fault 13 = .ok (.goto 16, 3) := by decide +kernel
theorem dX8_roof_0 : decode cX8_roof 0 = .ok (.aload_n 0, 1) := by decide +kernel
theorem dX8_roof_1 : decode cX8_roof 1 = .ok (.iconst 0, 1) := by decide +kernel
theorem dX8_roof_2 : decode cX8_roof 2 = .ok (.putfield 1, 3) := by decide +kernel
theorem dX8_roof_5 : decode cX8_roof 5 = .ok (.aload_n 0, 1) := by decide +kernel
theorem dX8_roof_6 : decode cX8_roof 6 = .ok (.iload_n 1, 1) := by decide +kernel
theorem dX8_roof_7 : decode cX8_roof 7 = .ok (.invokevirtual 173, 3) := by decide +kernel
theorem hd_yX8_isRoof : HD yX8_isRoof RX8 1 := by decide +kernel
theorem mw_409 : Cond.methodLink RX8 173 yX8_isRoof ∈ wsL_law := List.mem_of_getElem? (i := 409) (by decide +kernel)
theorem mw_410 : Cond.instanceMethod yX8_isRoof ∈ wsL_law := List.mem_of_getElem? (i := 410) (by decide +kernel)
theorem mw_411 : Cond.selects RX8 yX8_isRoof yX8_isRoof ∈ wsL_law := List.mem_of_getElem? (i := 411) (by decide +kernel)
theorem mw_412 : Cond.code yX8_isRoof cX8_isRoof 2 (some .boolean) ∈ wsL_law := List.mem_of_getElem? (i := 412) (by decide +kernel)
theorem dX8_roof_10 : decode cX8_roof 10 = .ok (.ifCond .ne 6, 3) := by decide +kernel
theorem dX8_roof_13 : decode cX8_roof 13 = .ok (.bipush (-2), 2) := by decide +kernel
theorem dX8_roof_15 : decode cX8_roof 15 = .ok (.ireturn, 1) := by decide +kernel
theorem dX8_layer_0 : decode cX8_layer 0 = .ok (.aload_n 0, 1) := by decide +kernel
theorem dX8_layer_1 : decode cX8_layer 1 = .ok (.iconst 0, 1) := by decide +kernel
theorem dX8_layer_2 : decode cX8_layer 2 = .ok (.putfield 1, 3) := by decide +kernel
theorem dX8_layer_5 : decode cX8_layer 5 = .ok (.aload_n 0, 1) := by decide +kernel
theorem dX8_layer_6 : decode cX8_layer 6 = .ok (.iload_n 1, 1) := by decide +kernel
theorem dX8_layer_7 : decode cX8_layer 7 = .ok (.invokevirtual 173, 3) := by decide +kernel
theorem dX8_layer_10 : decode cX8_layer 10 = .ok (.ifCond .eq 15, 3) := by decide +kernel
theorem dX8_layer_25 : decode cX8_layer 25 = .ok (.bipush (-2), 2) := by decide +kernel
theorem dX8_layer_27 : decode cX8_layer 27 = .ok (.ireturn, 1) := by decide +kernel
theorem dX8_leaksIn_0 : decode cX8_leaksIn 0 = .ok (.aload_n 0, 1) := by decide +kernel
theorem dX8_leaksIn_1 : decode cX8_leaksIn 1 = .ok (.iconst 0, 1) := by decide +kernel
theorem dX8_leaksIn_2 : decode cX8_leaksIn 2 = .ok (.putfield 1, 3) := by decide +kernel
theorem dX8_leaksIn_5 : decode cX8_leaksIn 5 = .ok (.aload_n 0, 1) := by decide +kernel
theorem dX8_leaksIn_6 : decode cX8_leaksIn 6 = .ok (.iload_n 1, 1) := by decide +kernel
theorem dX8_leaksIn_7 : decode cX8_leaksIn 7 = .ok (.invokevirtual 173, 3) := by decide +kernel
theorem dX8_leaksIn_10 : decode cX8_leaksIn 10 = .ok (.ifCond .ne 6, 3) := by decide +kernel
theorem dX8_leaksIn_13 : decode cX8_leaksIn 13 = .ok (.bipush (-2), 2) := by decide +kernel
theorem dX8_leaksIn_15 : decode cX8_leaksIn 15 = .ok (.ireturn, 1) := by decide +kernel
theorem dX8_spread_0 : decode cX8_spread 0 = .ok (.aload_n 0, 1) := by decide +kernel
theorem dX8_spread_1 : decode cX8_spread 1 = .ok (.iconst 0, 1) := by decide +kernel
theorem dX8_spread_2 : decode cX8_spread 2 = .ok (.putfield 1, 3) := by decide +kernel
theorem dX8_spread_5 : decode cX8_spread 5 = .ok (.aload_n 0, 1) := by decide +kernel
theorem dX8_spread_6 : decode cX8_spread 6 = .ok (.iload_n 1, 1) := by decide +kernel
theorem dX8_spread_7 : decode cX8_spread 7 = .ok (.invokevirtual 173, 3) := by decide +kernel
theorem dX8_spread_10 : decode cX8_spread 10 = .ok (.ifCond .ne 6, 3) := by decide +kernel
theorem dX8_spread_13 : decode cX8_spread 13 = .ok (.bipush (-2), 2) := by decide +kernel
theorem dX8_spread_15 : decode cX8_spread 15 = .ok (.ireturn, 1) := by decide +kernel
theorem dX8_mend_0 : decode cX8_mend 0 = .ok (.aload_n 0, 1) := by decide +kernel
theorem dX8_mend_1 : decode cX8_mend 1 = .ok (.iconst 0, 1) := by decide +kernel
theorem dX8_mend_2 : decode cX8_mend 2 = .ok (.putfield 1, 3) := by decide +kernel
theorem dX8_mend_5 : decode cX8_mend 5 = .ok (.aload_n 0, 1) := by decide +kernel
theorem dX8_mend_6 : decode cX8_mend 6 = .ok (.iload_n 1, 1) := by decide +kernel
theorem dX8_mend_7 : decode cX8_mend 7 = .ok (.invokevirtual 173, 3) := by decide +kernel
theorem dX8_mend_10 : decode cX8_mend 10 = .ok (.ifCond .eq 13, 3) := by decide +kernel
theorem dX8_mend_23 : decode cX8_mend 23 = .ok (.bipush (-2), 2) := by decide +kernel
theorem dX8_mend_25 : decode cX8_mend 25 = .ok (.ireturn, 1) := by decide +kernel
theorem dX8_slate_0 : decode cX8_slate 0 = .ok (.aload_n 0, 1) := by decide +kernel
theorem dX8_slate_1 : decode cX8_slate 1 = .ok (.iconst 0, 1) := by decide +kernel
theorem dX8_slate_2 : decode cX8_slate 2 = .ok (.putfield 1, 3) := by decide +kernel
theorem dX8_slate_5 : decode cX8_slate 5 = .ok (.aload_n 0, 1) := by decide +kernel
theorem dX8_slate_6 : decode cX8_slate 6 = .ok (.iload_n 1, 1) := by decide +kernel
theorem dX8_slate_7 : decode cX8_slate 7 = .ok (.invokevirtual 173, 3) := by decide +kernel
theorem dX8_slate_10 : decode cX8_slate 10 = .ok (.ifCond .ne 6, 3) := by decide +kernel
theorem dX8_slate_13 : decode cX8_slate 13 = .ok (.bipush (-2), 2) := by decide +kernel
theorem dX8_slate_15 : decode cX8_slate 15 = .ok (.ireturn, 1) := by decide +kernel
theorem dX8_burn_0 : decode cX8_burn 0 = .ok (.aload_n 0, 1) := by decide +kernel
theorem dX8_burn_1 : decode cX8_burn 1 = .ok (.iconst 0, 1) := by decide +kernel
theorem dX8_burn_2 : decode cX8_burn 2 = .ok (.putfield 1, 3) := by decide +kernel
theorem dX8_burn_5 : decode cX8_burn 5 = .ok (.aload_n 0, 1) := by decide +kernel
theorem dX8_burn_6 : decode cX8_burn 6 = .ok (.iload_n 1, 1) := by decide +kernel
theorem dX8_burn_7 : decode cX8_burn 7 = .ok (.invokevirtual 173, 3) := by decide +kernel
theorem dX8_burn_10 : decode cX8_burn 10 = .ok (.ifCond .ne 6, 3) := by decide +kernel
theorem dX8_burn_13 : decode cX8_burn 13 = .ok (.bipush (-2), 2) := by decide +kernel
theorem dX8_burn_15 : decode cX8_burn 15 = .ok (.ireturn, 1) := by decide +kernel
theorem dX8_harms_0 : decode cX8_harms 0 = .ok (.aload_n 0, 1) := by decide +kernel
theorem dX8_harms_1 : decode cX8_harms 1 = .ok (.iconst 0, 1) := by decide +kernel
theorem dX8_harms_2 : decode cX8_harms 2 = .ok (.putfield 1, 3) := by decide +kernel
theorem dX8_harms_5 : decode cX8_harms 5 = .ok (.aload_n 0, 1) := by decide +kernel
theorem dX8_harms_6 : decode cX8_harms 6 = .ok (.iload_n 2, 1) := by decide +kernel
theorem dX8_harms_7 : decode cX8_harms 7 = .ok (.invokevirtual 173, 3) := by decide +kernel
theorem dX8_harms_10 : decode cX8_harms 10 = .ok (.ifCond .ne 6, 3) := by decide +kernel
theorem dX8_harms_13 : decode cX8_harms 13 = .ok (.bipush (-2), 2) := by decide +kernel
theorem dX8_harms_15 : decode cX8_harms 15 = .ok (.ireturn, 1) := by decide +kernel
theorem dX8_cat_0 : decode cX8_cat 0 = .ok (.aload_n 0, 1) := by decide +kernel
theorem dX8_cat_1 : decode cX8_cat 1 = .ok (.iconst 0, 1) := by decide +kernel
theorem dX8_cat_2 : decode cX8_cat 2 = .ok (.putfield 1, 3) := by decide +kernel
theorem dX8_cat_5 : decode cX8_cat 5 = .ok (.aload_n 0, 1) := by decide +kernel
theorem dX8_cat_6 : decode cX8_cat 6 = .ok (.iload_n 1, 1) := by decide +kernel
theorem dX8_cat_7 : decode cX8_cat 7 = .ok (.invokevirtual 173, 3) := by decide +kernel
theorem dX8_cat_10 : decode cX8_cat 10 = .ok (.ifCond .ne 6, 3) := by decide +kernel
theorem dX8_cat_13 : decode cX8_cat 13 = .ok (.bipush (-2), 2) := by decide +kernel
theorem dX8_cat_15 : decode cX8_cat 15 = .ok (.ireturn, 1) := by decide +kernel
theorem dX8_mice_0 : decode cX8_mice 0 = .ok (.aload_n 0, 1) := by decide +kernel
theorem dX8_mice_1 : decode cX8_mice 1 = .ok (.iconst 0, 1) := by decide +kernel
theorem dX8_mice_2 : decode cX8_mice 2 = .ok (.putfield 1, 3) := by decide +kernel
theorem dX8_mice_5 : decode cX8_mice 5 = .ok (.aload_n 0, 1) := by decide +kernel
theorem dX8_mice_6 : decode cX8_mice 6 = .ok (.iload_n 1, 1) := by decide +kernel
theorem dX8_mice_7 : decode cX8_mice 7 = .ok (.invokevirtual 173, 3) := by decide +kernel
theorem dX8_mice_10 : decode cX8_mice 10 = .ok (.ifCond .ne 6, 3) := by decide +kernel
theorem dX8_mice_13 : decode cX8_mice 13 = .ok (.bipush (-2), 2) := by decide +kernel
theorem dX8_mice_15 : decode cX8_mice 15 = .ok (.ireturn, 1) := by decide +kernel
theorem dX8_spark_0 : decode cX8_spark 0 = .ok (.aload_n 0, 1) := by decide +kernel
theorem dX8_spark_1 : decode cX8_spark 1 = .ok (.iconst 0, 1) := by decide +kernel
theorem dX8_spark_2 : decode cX8_spark 2 = .ok (.putfield 1, 3) := by decide +kernel
theorem dX8_spark_5 : decode cX8_spark 5 = .ok (.aload_n 0, 1) := by decide +kernel
theorem dX8_spark_6 : decode cX8_spark 6 = .ok (.iload_n 1, 1) := by decide +kernel
theorem dX8_spark_7 : decode cX8_spark 7 = .ok (.invokevirtual 173, 3) := by decide +kernel
theorem dX8_spark_10 : decode cX8_spark 10 = .ok (.ifCond .ne 6, 3) := by decide +kernel
theorem dX8_spark_13 : decode cX8_spark 13 = .ok (.bipush (-2), 2) := by decide +kernel
theorem dX8_spark_15 : decode cX8_spark 15 = .ok (.ireturn, 1) := by decide +kernel
theorem dX8_copy_0 : decode cX8_copy 0 = .ok (.aload_n 0, 1) := by decide +kernel
theorem dX8_copy_1 : decode cX8_copy 1 = .ok (.iconst 0, 1) := by decide +kernel
theorem dX8_copy_2 : decode cX8_copy 2 = .ok (.putfield 1, 3) := by decide +kernel
theorem dX8_copy_5 : decode cX8_copy 5 = .ok (.aload_n 0, 1) := by decide +kernel
theorem dX8_copy_6 : decode cX8_copy 6 = .ok (.iload_n 1, 1) := by decide +kernel
theorem dX8_copy_7 : decode cX8_copy 7 = .ok (.invokevirtual 173, 3) := by decide +kernel
theorem dX8_copy_10 : decode cX8_copy 10 = .ok (.ifCond .eq 15, 3) := by decide +kernel
theorem dX8_copy_25 : decode cX8_copy 25 = .ok (.bipush (-2), 2) := by decide +kernel
theorem dX8_copy_27 : decode cX8_copy 27 = .ok (.ireturn, 1) := by decide +kernel
theorem dX8_odds_0 : decode cX8_odds 0 = .ok (.aload_n 0, 1) := by decide +kernel
theorem dX8_odds_1 : decode cX8_odds 1 = .ok (.iconst 0, 1) := by decide +kernel
theorem dX8_odds_2 : decode cX8_odds 2 = .ok (.putfield 1, 3) := by decide +kernel
theorem dX8_odds_5 : decode cX8_odds 5 = .ok (.aload_n 0, 1) := by decide +kernel
theorem dX8_odds_6 : decode cX8_odds 6 = .ok (.iload_n 1, 1) := by decide +kernel
theorem dX8_odds_7 : decode cX8_odds 7 = .ok (.invokevirtual 173, 3) := by decide +kernel
theorem dX8_odds_10 : decode cX8_odds 10 = .ok (.ifCond .ne 7, 3) := by decide +kernel
theorem dX8_odds_13 : decode cX8_odds 13 = .ok (.ldc2_w 284, 3) := by decide +kernel
theorem mw_941 : Cond.constantLong RX8 284 (-2) ∈ wsL_law := List.mem_of_getElem? (i := 941) (by decide +kernel)
theorem dX8_odds_16 : decode cX8_odds 16 = .ok (.lreturn, 1) := by decide +kernel
theorem dX8_year_0 : decode cX8_year 0 = .ok (.aload_n 0, 1) := by decide +kernel
theorem dX8_year_1 : decode cX8_year 1 = .ok (.iconst 0, 1) := by decide +kernel
theorem dX8_year_2 : decode cX8_year 2 = .ok (.putfield 1, 3) := by decide +kernel
theorem dX8_year_5 : decode cX8_year 5 = .ok (.aload_n 0, 1) := by decide +kernel
theorem dX8_year_6 : decode cX8_year 6 = .ok (.iload_n 1, 1) := by decide +kernel
theorem dX8_year_7 : decode cX8_year 7 = .ok (.i2l, 1) := by decide +kernel
theorem dX8_year_8 : decode cX8_year 8 = .ok (.invokevirtual 204, 3) := by decide +kernel
theorem hd_yX8_refuses : HD yX8_refuses RX8 1 := by decide +kernel
theorem mw_514 : Cond.methodLink RX8 204 yX8_refuses ∈ wsL_law := List.mem_of_getElem? (i := 514) (by decide +kernel)
theorem mw_515 : Cond.instanceMethod yX8_refuses ∈ wsL_law := List.mem_of_getElem? (i := 515) (by decide +kernel)
theorem mw_516 : Cond.selects RX8 yX8_refuses yX8_refuses ∈ wsL_law := List.mem_of_getElem? (i := 516) (by decide +kernel)
theorem mw_517 : Cond.code yX8_refuses cX8_refuses 3 (some .int) ∈ wsL_law := List.mem_of_getElem? (i := 517) (by decide +kernel)
theorem dX8_year_11 : decode cX8_year 11 = .ok (.istore_n 2, 1) := by decide +kernel
theorem dX8_year_12 : decode cX8_year 12 = .ok (.iload_n 2, 1) := by decide +kernel
theorem dX8_year_13 : decode cX8_year 13 = .ok (.ifCond .eq 16, 3) := by decide +kernel
theorem dX8_year_29 : decode cX8_year 29 = .ok (.aload_n 0, 1) := by decide +kernel
theorem dX8_year_30 : decode cX8_year 30 = .ok (.iload_n 1, 1) := by decide +kernel
theorem dX8_year_31 : decode cX8_year 31 = .ok (.invokevirtual 208, 3) := by decide +kernel
theorem dX8_year_34 : decode cX8_year 34 = .ok (.aload_n 0, 1) := by decide +kernel
theorem dX8_year_35 : decode cX8_year 35 = .ok (.invokevirtual 211, 3) := by decide +kernel
theorem dX8_year_38 : decode cX8_year 38 = .ok (.ireturn, 1) := by decide +kernel
theorem dX8_year_16 : decode cX8_year 16 = .ok (.iload_n 2, 1) := by decide +kernel
theorem dX8_year_17 : decode cX8_year 17 = .ok (.iconst 3, 1) := by decide +kernel
theorem dX8_year_18 : decode cX8_year 18 = .ok (.if_icmp .ne 8, 3) := by decide +kernel
theorem dX8_year_26 : decode cX8_year 26 = .ok (.bipush (-3), 2) := by decide +kernel
theorem dX8_year_28 : decode cX8_year 28 = .ok (.ireturn, 1) := by decide +kernel
theorem dX8_rain_0 : decode cX8_rain 0 = .ok (.aload_n 0, 1) := by decide +kernel
theorem dX8_rain_1 : decode cX8_rain 1 = .ok (.iconst 0, 1) := by decide +kernel
theorem dX8_rain_2 : decode cX8_rain 2 = .ok (.putfield 1, 3) := by decide +kernel
theorem dX8_rain_5 : decode cX8_rain 5 = .ok (.aload_n 0, 1) := by decide +kernel
theorem dX8_rain_6 : decode cX8_rain 6 = .ok (.invokevirtual 214, 3) := by decide +kernel
theorem dX8_rain_9 : decode cX8_rain 9 = .ok (.ireturn, 1) := by decide +kernel
theorem dX8_judge_0 : decode cX8_judge 0 = .ok (.aload_n 0, 1) := by decide +kernel
theorem dX8_judge_1 : decode cX8_judge 1 = .ok (.iconst 0, 1) := by decide +kernel
theorem dX8_judge_2 : decode cX8_judge 2 = .ok (.putfield 1, 3) := by decide +kernel
theorem dX8_judge_5 : decode cX8_judge 5 = .ok (.iload_n 1, 1) := by decide +kernel
theorem dX8_judge_6 : decode cX8_judge 6 = .ok (.i2l, 1) := by decide +kernel
theorem dX8_judge_7 : decode cX8_judge 7 = .ok (.lconst 0, 1) := by decide +kernel
theorem dX8_judge_8 : decode cX8_judge 8 = .ok (.ldc2_w 220, 3) := by decide +kernel
theorem mw_592 : Cond.constantLong RX8 220 (3) ∈ wsL_law := List.mem_of_getElem? (i := 592) (by decide +kernel)
theorem dX8_judge_11 : decode cX8_judge 11 = .ok (.invokestatic 131, 3) := by decide +kernel
theorem dX8_judge_14 : decode cX8_judge 14 = .ok (.ifCond .eq 15, 3) := by decide +kernel
theorem dX8_judge_17 : decode cX8_judge 17 = .ok (.iload_n 2, 1) := by decide +kernel
theorem dX8_judge_18 : decode cX8_judge 18 = .ok (.i2l, 1) := by decide +kernel
theorem dX8_judge_19 : decode cX8_judge 19 = .ok (.lconst 0, 1) := by decide +kernel
theorem dX8_judge_20 : decode cX8_judge 20 = .ok (.ldc2_w 220, 3) := by decide +kernel
theorem dX8_judge_23 : decode cX8_judge 23 = .ok (.invokestatic 131, 3) := by decide +kernel
theorem dX8_judge_26 : decode cX8_judge 26 = .ok (.ifCond .ne 6, 3) := by decide +kernel
theorem dX8_judge_32 : decode cX8_judge 32 = .ok (.aload_n 0, 1) := by decide +kernel
theorem dX8_judge_33 : decode cX8_judge 33 = .ok (.getfield 57, 3) := by decide +kernel
theorem mw_105 : Cond.fieldLink RX8 57 "ThatchNextModel" "rowSort" "[I" ∈ wsL_law := List.mem_of_getElem? (i := 105) (by decide +kernel)
theorem dX8_judge_36 : decode cX8_judge 36 = .ok (.iload_n 1, 1) := by decide +kernel
theorem dX8_judge_37 : decode cX8_judge 37 = .ok (.iaload, 1) := by decide +kernel
theorem dX8_judge_38 : decode cX8_judge 38 = .ok (.iconst (-1), 1) := by decide +kernel
theorem dX8_judge_39 : decode cX8_judge 39 = .ok (.if_icmp .ne 6, 3) := by decide +kernel
theorem dX8_judge_42 : decode cX8_judge 42 = .ok (.bipush (-6), 2) := by decide +kernel
theorem dX8_judge_44 : decode cX8_judge 44 = .ok (.ireturn, 1) := by decide +kernel
theorem dX8_judge_29 : decode cX8_judge 29 = .ok (.bipush (-2), 2) := by decide +kernel
theorem dX8_judge_31 : decode cX8_judge 31 = .ok (.ireturn, 1) := by decide +kernel
theorem dX8_perform_0 : decode cX8_perform 0 = .ok (.aload_n 0, 1) := by decide +kernel
theorem dX8_perform_1 : decode cX8_perform 1 = .ok (.iconst 0, 1) := by decide +kernel
theorem dX8_perform_2 : decode cX8_perform 2 = .ok (.putfield 1, 3) := by decide +kernel
theorem dX8_perform_5 : decode cX8_perform 5 = .ok (.iload_n 1, 1) := by decide +kernel
theorem dX8_perform_6 : decode cX8_perform 6 = .ok (.i2l, 1) := by decide +kernel
theorem dX8_perform_7 : decode cX8_perform 7 = .ok (.lconst 0, 1) := by decide +kernel
theorem dX8_perform_8 : decode cX8_perform 8 = .ok (.ldc2_w 220, 3) := by decide +kernel
theorem dX8_perform_11 : decode cX8_perform 11 = .ok (.invokestatic 131, 3) := by decide +kernel
theorem dX8_perform_14 : decode cX8_perform 14 = .ok (.ifCond .ne 6, 3) := by decide +kernel
theorem dX8_perform_20 : decode cX8_perform 20 = .ok (.aload_n 0, 1) := by decide +kernel
theorem dX8_perform_21 : decode cX8_perform 21 = .ok (.getfield 57, 3) := by decide +kernel
theorem dX8_perform_24 : decode cX8_perform 24 = .ok (.iload_n 1, 1) := by decide +kernel
theorem dX8_perform_25 : decode cX8_perform 25 = .ok (.iaload, 1) := by decide +kernel
theorem dX8_perform_26 : decode cX8_perform 26 = .ok (.iconst (-1), 1) := by decide +kernel
theorem dX8_perform_27 : decode cX8_perform 27 = .ok (.if_icmp .ne 8, 3) := by decide +kernel
theorem dX8_perform_30 : decode cX8_perform 30 = .ok (.bipush (-6), 2) := by decide +kernel
theorem dX8_perform_32 : decode cX8_perform 32 = .ok (.goto 8, 3) := by decide +kernel
theorem dX8_perform_40 : decode cX8_perform 40 = .ok (.ireturn, 1) := by decide +kernel
theorem dX8_perform_17 : decode cX8_perform 17 = .ok (.bipush (-2), 2) := by decide +kernel
theorem dX8_perform_19 : decode cX8_perform 19 = .ok (.ireturn, 1) := by decide +kernel
theorem dX8_drawn_0 : decode cX8_drawn 0 = .ok (.aload_n 0, 1) := by decide +kernel
theorem dX8_drawn_1 : decode cX8_drawn 1 = .ok (.iconst 0, 1) := by decide +kernel
theorem dX8_drawn_2 : decode cX8_drawn 2 = .ok (.putfield 1, 3) := by decide +kernel
theorem dX8_drawn_5 : decode cX8_drawn 5 = .ok (.iload_n 2, 1) := by decide +kernel
theorem dX8_drawn_6 : decode cX8_drawn 6 = .ok (.i2l, 1) := by decide +kernel
theorem dX8_drawn_7 : decode cX8_drawn 7 = .ok (.lconst 1, 1) := by decide +kernel
theorem dX8_drawn_8 : decode cX8_drawn 8 = .ok (.ldc2_w 234, 3) := by decide +kernel
theorem mw_631 : Cond.constantLong RX8 234 (30) ∈ wsL_law := List.mem_of_getElem? (i := 631) (by decide +kernel)
theorem dX8_drawn_11 : decode cX8_drawn 11 = .ok (.invokestatic 131, 3) := by decide +kernel
theorem dX8_drawn_14 : decode cX8_drawn 14 = .ok (.ifCond .ne 6, 3) := by decide +kernel
theorem dX8_drawn_20 : decode cX8_drawn 20 = .ok (.aload_n 0, 1) := by decide +kernel
theorem dX8_drawn_21 : decode cX8_drawn 21 = .ok (.getfield 13, 3) := by decide +kernel
theorem dX8_drawn_24 : decode cX8_drawn 24 = .ok (.iconst 1, 1) := by decide +kernel
theorem dX8_drawn_25 : decode cX8_drawn 25 = .ok (.iaload, 1) := by decide +kernel
theorem dX8_drawn_26 : decode cX8_drawn 26 = .ok (.iload_n 2, 1) := by decide +kernel
theorem dX8_drawn_27 : decode cX8_drawn 27 = .ok (.iadd, 1) := by decide +kernel
theorem dX8_drawn_28 : decode cX8_drawn 28 = .ok (.sipush 999, 3) := by decide +kernel
theorem dX8_drawn_31 : decode cX8_drawn 31 = .ok (.if_icmp .le 6, 3) := by decide +kernel
theorem dX8_drawn_37 : decode cX8_drawn 37 = .ok (.iload_n 1, 1) := by decide +kernel
theorem dX8_drawn_38 : decode cX8_drawn 38 = .ok (.istore_n 3, 1) := by decide +kernel
theorem dX8_drawn_39 : decode cX8_drawn 39 = .ok (.iconst 0, 1) := by decide +kernel
theorem dX8_drawn_40 : decode cX8_drawn 40 = .ok (.istore 4, 2) := by decide +kernel
theorem dX8_drawn_42 : decode cX8_drawn 42 = .ok (.iconst 0, 1) := by decide +kernel
theorem dX8_drawn_43 : decode cX8_drawn 43 = .ok (.istore 5, 2) := by decide +kernel
theorem dX8_drawn_45 : decode cX8_drawn 45 = .ok (.iload 5, 2) := by decide +kernel
theorem dX8_drawn_47 : decode cX8_drawn 47 = .ok (.iload_n 2, 1) := by decide +kernel
theorem dX8_drawn_48 : decode cX8_drawn 48 = .ok (.if_icmp .ge 109, 3) := by decide +kernel
theorem dX8_drawn_157 : decode cX8_drawn 157 = .ok (.iload 4, 2) := by decide +kernel
theorem dX8_drawn_159 : decode cX8_drawn 159 = .ok (.ireturn, 1) := by decide +kernel
theorem dX8_drawn_51 : decode cX8_drawn 51 = .ok (.iconst 0, 1) := by decide +kernel
theorem dX8_drawn_52 : decode cX8_drawn 52 = .ok (.istore 6, 2) := by decide +kernel
theorem dX8_drawn_54 : decode cX8_drawn 54 = .ok (.iconst 0, 1) := by decide +kernel
theorem dX8_drawn_55 : decode cX8_drawn 55 = .ok (.istore 7, 2) := by decide +kernel
theorem dX8_drawn_57 : decode cX8_drawn 57 = .ok (.iload 7, 2) := by decide +kernel
theorem dX8_drawn_59 : decode cX8_drawn 59 = .ok (.aload_n 0, 1) := by decide +kernel
theorem dX8_drawn_60 : decode cX8_drawn 60 = .ok (.getfield 13, 3) := by decide +kernel
theorem dX8_drawn_63 : decode cX8_drawn 63 = .ok (.iconst 0, 1) := by decide +kernel
theorem dX8_drawn_64 : decode cX8_drawn 64 = .ok (.iaload, 1) := by decide +kernel
theorem dX8_drawn_65 : decode cX8_drawn 65 = .ok (.if_icmp .ge 52, 3) := by decide +kernel
theorem dX8_drawn_117 : decode cX8_drawn 117 = .ok (.aload_n 0, 1) := by decide +kernel
theorem dX8_drawn_118 : decode cX8_drawn 118 = .ok (.iload 6, 2) := by decide +kernel
theorem dX8_drawn_120 : decode cX8_drawn 120 = .ok (.invokevirtual 208, 3) := by decide +kernel
theorem dX8_drawn_123 : decode cX8_drawn 123 = .ok (.ldc 236, 2) := by decide +kernel
theorem mw_632 : Cond.constant RX8 236 (1103515245) ∈ wsL_law := List.mem_of_getElem? (i := 632) (by decide +kernel)
theorem dX8_drawn_125 : decode cX8_drawn 125 = .ok (.iload_n 3, 1) := by decide +kernel
theorem dX8_drawn_126 : decode cX8_drawn 126 = .ok (.imul, 1) := by decide +kernel
theorem dX8_drawn_127 : decode cX8_drawn 127 = .ok (.sipush 12345, 3) := by decide +kernel
theorem dX8_drawn_130 : decode cX8_drawn 130 = .ok (.iadd, 1) := by decide +kernel
theorem dX8_drawn_131 : decode cX8_drawn 131 = .ok (.istore_n 3, 1) := by decide +kernel
theorem dX8_drawn_132 : decode cX8_drawn 132 = .ok (.iload_n 3, 1) := by decide +kernel
theorem dX8_drawn_133 : decode cX8_drawn 133 = .ok (.bipush 16, 2) := by decide +kernel
theorem dX8_drawn_135 : decode cX8_drawn 135 = .ok (.iushr, 1) := by decide +kernel
theorem dX8_drawn_136 : decode cX8_drawn 136 = .ok (.iconst 2, 1) := by decide +kernel
theorem dX8_drawn_137 : decode cX8_drawn 137 = .ok (.irem, 1) := by decide +kernel
theorem dX8_drawn_138 : decode cX8_drawn 138 = .ok (.iconst 1, 1) := by decide +kernel
theorem dX8_drawn_139 : decode cX8_drawn 139 = .ok (.if_icmp .ne 12, 3) := by decide +kernel
theorem dX8_drawn_151 : decode cX8_drawn 151 = .ok (.iinc 5 1, 3) := by decide +kernel
theorem dX8_drawn_154 : decode cX8_drawn 154 = .ok (.goto (-109), 3) := by decide +kernel
theorem dX8_drawn_142 : decode cX8_drawn 142 = .ok (.iload 4, 2) := by decide +kernel
theorem dX8_drawn_144 : decode cX8_drawn 144 = .ok (.aload_n 0, 1) := by decide +kernel
theorem dX8_drawn_145 : decode cX8_drawn 145 = .ok (.invokevirtual 214, 3) := by decide +kernel
theorem dX8_drawn_148 : decode cX8_drawn 148 = .ok (.iadd, 1) := by decide +kernel
theorem dX8_drawn_149 : decode cX8_drawn 149 = .ok (.istore 4, 2) := by decide +kernel
theorem dX8_drawn_17 : decode cX8_drawn 17 = .ok (.bipush (-3), 2) := by decide +kernel
theorem dX8_drawn_19 : decode cX8_drawn 19 = .ok (.ireturn, 1) := by decide +kernel
theorem dX8_leaks_0 : decode cX8_leaks 0 = .ok (.aload_n 0, 1) := by decide +kernel
theorem dX8_leaks_1 : decode cX8_leaks 1 = .ok (.iconst 0, 1) := by decide +kernel
theorem dX8_leaks_2 : decode cX8_leaks 2 = .ok (.putfield 1, 3) := by decide +kernel
theorem dX8_leaks_5 : decode cX8_leaks 5 = .ok (.aload_n 0, 1) := by decide +kernel
theorem dX8_leaks_6 : decode cX8_leaks 6 = .ok (.invokevirtual 211, 3) := by decide +kernel
theorem dX8_leaks_9 : decode cX8_leaks 9 = .ok (.ireturn, 1) := by decide +kernel
theorem dX8_harm_0 : decode cX8_harm 0 = .ok (.aload_n 0, 1) := by decide +kernel
theorem dX8_harm_1 : decode cX8_harm 1 = .ok (.iconst 0, 1) := by decide +kernel
theorem dX8_harm_2 : decode cX8_harm 2 = .ok (.putfield 1, 3) := by decide +kernel
theorem dX8_harm_5 : decode cX8_harm 5 = .ok (.aload_n 0, 1) := by decide +kernel
theorem dX8_harm_6 : decode cX8_harm 6 = .ok (.iload_n 1, 1) := by decide +kernel
theorem dX8_harm_7 : decode cX8_harm 7 = .ok (.i2l, 1) := by decide +kernel
theorem dX8_harm_8 : decode cX8_harm 8 = .ok (.invokevirtual 241, 3) := by decide +kernel
theorem dX8_harm_11 : decode cX8_harm 11 = .ok (.ifCond .eq 15, 3) := by decide +kernel
theorem dX8_harm_14 : decode cX8_harm 14 = .ok (.iload_n 2, 1) := by decide +kernel
theorem dX8_harm_15 : decode cX8_harm 15 = .ok (.i2l, 1) := by decide +kernel
theorem dX8_harm_16 : decode cX8_harm 16 = .ok (.lconst 1, 1) := by decide +kernel
theorem dX8_harm_17 : decode cX8_harm 17 = .ok (.ldc2_w 244, 3) := by decide +kernel
theorem mw_735 : Cond.constantLong RX8 244 (12) ∈ wsL_law := List.mem_of_getElem? (i := 735) (by decide +kernel)
theorem dX8_harm_20 : decode cX8_harm 20 = .ok (.invokestatic 131, 3) := by decide +kernel
theorem dX8_harm_23 : decode cX8_harm 23 = .ok (.ifCond .ne 6, 3) := by decide +kernel
theorem dX8_harm_29 : decode cX8_harm 29 = .ok (.aload_n 0, 1) := by decide +kernel
theorem dX8_harm_30 : decode cX8_harm 30 = .ok (.iload_n 1, 1) := by decide +kernel
theorem dX8_harm_31 : decode cX8_harm 31 = .ok (.iload_n 2, 1) := by decide +kernel
theorem dX8_harm_32 : decode cX8_harm 32 = .ok (.invokevirtual 246, 3) := by decide +kernel
theorem hd_yX8_laysDrips : HD yX8_laysDrips RX8 2 := by decide +kernel
theorem mw_740 : Cond.methodLink RX8 246 yX8_laysDrips ∈ wsL_law := List.mem_of_getElem? (i := 740) (by decide +kernel)
theorem mw_741 : Cond.instanceMethod yX8_laysDrips ∈ wsL_law := List.mem_of_getElem? (i := 741) (by decide +kernel)
theorem mw_742 : Cond.selects RX8 yX8_laysDrips yX8_laysDrips ∈ wsL_law := List.mem_of_getElem? (i := 742) (by decide +kernel)
theorem mw_743 : Cond.code yX8_laysDrips cX8_laysDrips 6 (some .int) ∈ wsL_law := List.mem_of_getElem? (i := 743) (by decide +kernel)
theorem dX8_harm_35 : decode cX8_harm 35 = .ok (.aload_n 0, 1) := by decide +kernel
theorem dX8_harm_36 : decode cX8_harm 36 = .ok (.iconst 0, 1) := by decide +kernel
theorem dX8_harm_37 : decode cX8_harm 37 = .ok (.iload_n 2, 1) := by decide +kernel
theorem dX8_harm_38 : decode cX8_harm 38 = .ok (.invokevirtual 246, 3) := by decide +kernel
theorem dX8_harm_41 : decode cX8_harm 41 = .ok (.isub, 1) := by decide +kernel
theorem dX8_harm_42 : decode cX8_harm 42 = .ok (.ireturn, 1) := by decide +kernel
theorem dX8_harm_26 : decode cX8_harm 26 = .ok (.bipush (-3), 2) := by decide +kernel
theorem dX8_harm_28 : decode cX8_harm 28 = .ok (.ireturn, 1) := by decide +kernel
theorem dX8_may_0 : decode cX8_may 0 = .ok (.aload_n 0, 1) := by decide +kernel
theorem dX8_may_1 : decode cX8_may 1 = .ok (.iconst 0, 1) := by decide +kernel
theorem dX8_may_2 : decode cX8_may 2 = .ok (.putfield 1, 3) := by decide +kernel
theorem dX8_may_5 : decode cX8_may 5 = .ok (.iload_n 1, 1) := by decide +kernel
theorem dX8_may_6 : decode cX8_may 6 = .ok (.i2l, 1) := by decide +kernel
theorem dX8_may_7 : decode cX8_may 7 = .ok (.lconst 1, 1) := by decide +kernel
theorem dX8_may_8 : decode cX8_may 8 = .ok (.ldc2_w 244, 3) := by decide +kernel
theorem dX8_may_11 : decode cX8_may 11 = .ok (.invokestatic 131, 3) := by decide +kernel
theorem dX8_may_14 : decode cX8_may 14 = .ok (.ifCond .ne 6, 3) := by decide +kernel
theorem dX8_may_20 : decode cX8_may 20 = .ok (.aload_n 0, 1) := by decide +kernel
theorem dX8_may_21 : decode cX8_may 21 = .ok (.iconst 0, 1) := by decide +kernel
theorem dX8_may_22 : decode cX8_may 22 = .ok (.iload_n 1, 1) := by decide +kernel
theorem dX8_may_23 : decode cX8_may 23 = .ok (.invokevirtual 246, 3) := by decide +kernel
theorem dX8_may_26 : decode cX8_may 26 = .ok (.istore_n 2, 1) := by decide +kernel
theorem dX8_may_27 : decode cX8_may 27 = .ok (.iconst 0, 1) := by decide +kernel
theorem dX8_may_28 : decode cX8_may 28 = .ok (.istore_n 3, 1) := by decide +kernel
theorem dX8_may_29 : decode cX8_may 29 = .ok (.iconst 0, 1) := by decide +kernel
theorem dX8_may_30 : decode cX8_may 30 = .ok (.istore 4, 2) := by decide +kernel
theorem dX8_may_32 : decode cX8_may 32 = .ok (.iload 4, 2) := by decide +kernel
theorem dX8_may_34 : decode cX8_may 34 = .ok (.aload_n 0, 1) := by decide +kernel
theorem dX8_may_35 : decode cX8_may 35 = .ok (.getfield 13, 3) := by decide +kernel
theorem dX8_may_38 : decode cX8_may 38 = .ok (.iconst 0, 1) := by decide +kernel
theorem dX8_may_39 : decode cX8_may 39 = .ok (.iaload, 1) := by decide +kernel
theorem dX8_may_40 : decode cX8_may 40 = .ok (.if_icmp .ge 42, 3) := by decide +kernel
theorem dX8_may_82 : decode cX8_may 82 = .ok (.iload_n 3, 1) := by decide +kernel
theorem dX8_may_83 : decode cX8_may 83 = .ok (.ireturn, 1) := by decide +kernel
theorem dX8_may_17 : decode cX8_may 17 = .ok (.bipush (-3), 2) := by decide +kernel
theorem dX8_may_19 : decode cX8_may 19 = .ok (.ireturn, 1) := by decide +kernel
theorem dX8_laziest_0 : decode cX8_laziest 0 = .ok (.aload_n 0, 1) := by decide +kernel
theorem dX8_laziest_1 : decode cX8_laziest 1 = .ok (.iconst 0, 1) := by decide +kernel
theorem dX8_laziest_2 : decode cX8_laziest 2 = .ok (.putfield 1, 3) := by decide +kernel
theorem dX8_laziest_5 : decode cX8_laziest 5 = .ok (.iload_n 1, 1) := by decide +kernel
theorem dX8_laziest_6 : decode cX8_laziest 6 = .ok (.i2l, 1) := by decide +kernel
theorem dX8_laziest_7 : decode cX8_laziest 7 = .ok (.lconst 1, 1) := by decide +kernel
theorem dX8_laziest_8 : decode cX8_laziest 8 = .ok (.ldc2_w 244, 3) := by decide +kernel
theorem dX8_laziest_11 : decode cX8_laziest 11 = .ok (.invokestatic 131, 3) := by decide +kernel
theorem dX8_laziest_14 : decode cX8_laziest 14 = .ok (.ifCond .ne 6, 3) := by decide +kernel
theorem dX8_laziest_20 : decode cX8_laziest 20 = .ok (.aload_n 0, 1) := by decide +kernel
theorem dX8_laziest_21 : decode cX8_laziest 21 = .ok (.iconst 0, 1) := by decide +kernel
theorem dX8_laziest_22 : decode cX8_laziest 22 = .ok (.iload_n 1, 1) := by decide +kernel
theorem dX8_laziest_23 : decode cX8_laziest 23 = .ok (.invokevirtual 246, 3) := by decide +kernel
theorem dX8_laziest_26 : decode cX8_laziest 26 = .ok (.istore_n 2, 1) := by decide +kernel
theorem dX8_laziest_27 : decode cX8_laziest 27 = .ok (.iconst 0, 1) := by decide +kernel
theorem dX8_laziest_28 : decode cX8_laziest 28 = .ok (.istore_n 3, 1) := by decide +kernel
theorem dX8_laziest_29 : decode cX8_laziest 29 = .ok (.iconst 1, 1) := by decide +kernel
theorem dX8_laziest_30 : decode cX8_laziest 30 = .ok (.istore 4, 2) := by decide +kernel
theorem dX8_laziest_32 : decode cX8_laziest 32 = .ok (.iload 4, 2) := by decide +kernel
theorem dX8_laziest_34 : decode cX8_laziest 34 = .ok (.iconst 1, 1) := by decide +kernel
theorem dX8_laziest_35 : decode cX8_laziest 35 = .ok (.aload_n 0, 1) := by decide +kernel
theorem dX8_laziest_36 : decode cX8_laziest 36 = .ok (.getfield 13, 3) := by decide +kernel
theorem dX8_laziest_39 : decode cX8_laziest 39 = .ok (.iconst 0, 1) := by decide +kernel
theorem dX8_laziest_40 : decode cX8_laziest 40 = .ok (.iaload, 1) := by decide +kernel
theorem dX8_laziest_41 : decode cX8_laziest 41 = .ok (.ishl, 1) := by decide +kernel
theorem dX8_laziest_42 : decode cX8_laziest 42 = .ok (.if_icmp .ge 45, 3) := by decide +kernel
theorem dX8_laziest_87 : decode cX8_laziest 87 = .ok (.iload_n 3, 1) := by decide +kernel
theorem dX8_laziest_88 : decode cX8_laziest 88 = .ok (.ireturn, 1) := by decide +kernel
theorem dX8_laziest_17 : decode cX8_laziest 17 = .ok (.bipush (-3), 2) := by decide +kernel
theorem dX8_laziest_19 : decode cX8_laziest 19 = .ok (.ireturn, 1) := by decide +kernel
theorem dX8_dry_0 : decode cX8_dry 0 = .ok (.aload_n 0, 1) := by decide +kernel
theorem dX8_dry_1 : decode cX8_dry 1 = .ok (.iconst 0, 1) := by decide +kernel
theorem dX8_dry_2 : decode cX8_dry 2 = .ok (.putfield 1, 3) := by decide +kernel
theorem dX8_dry_5 : decode cX8_dry 5 = .ok (.iload_n 2, 1) := by decide +kernel
theorem dX8_dry_6 : decode cX8_dry 6 = .ok (.ifCond .eq 20, 3) := by decide +kernel
theorem dX8_dry_26 : decode cX8_dry 26 = .ok (.iload_n 1, 1) := by decide +kernel
theorem dX8_dry_27 : decode cX8_dry 27 = .ok (.i2l, 1) := by decide +kernel
theorem dX8_dry_28 : decode cX8_dry 28 = .ok (.lconst 1, 1) := by decide +kernel
theorem dX8_dry_29 : decode cX8_dry 29 = .ok (.ldc2_w 262, 3) := by decide +kernel
theorem mw_804 : Cond.constantLong RX8 262 (4) ∈ wsL_law := List.mem_of_getElem? (i := 804) (by decide +kernel)
theorem dX8_dry_32 : decode cX8_dry 32 = .ok (.invokestatic 131, 3) := by decide +kernel
theorem dX8_dry_35 : decode cX8_dry 35 = .ok (.ifCond .ne 6, 3) := by decide +kernel
theorem dX8_dry_41 : decode cX8_dry 41 = .ok (.aload_n 0, 1) := by decide +kernel
theorem dX8_dry_42 : decode cX8_dry 42 = .ok (.getfield 13, 3) := by decide +kernel
theorem dX8_dry_45 : decode cX8_dry 45 = .ok (.iconst 0, 1) := by decide +kernel
theorem dX8_dry_46 : decode cX8_dry 46 = .ok (.iaload, 1) := by decide +kernel
theorem dX8_dry_47 : decode cX8_dry 47 = .ok (.iconst 4, 1) := by decide +kernel
theorem dX8_dry_48 : decode cX8_dry 48 = .ok (.if_icmp .le 6, 3) := by decide +kernel
theorem dX8_dry_54 : decode cX8_dry 54 = .ok (.aload_n 0, 1) := by decide +kernel
theorem dX8_dry_55 : decode cX8_dry 55 = .ok (.iconst (-1), 1) := by decide +kernel
theorem dX8_dry_56 : decode cX8_dry 56 = .ok (.putfield 252, 3) := by decide +kernel
theorem dX8_dry_59 : decode cX8_dry 59 = .ok (.aload_n 0, 1) := by decide +kernel
theorem dX8_dry_60 : decode cX8_dry 60 = .ok (.iconst 0, 1) := by decide +kernel
theorem dX8_dry_61 : decode cX8_dry 61 = .ok (.iload_n 1, 1) := by decide +kernel
theorem dX8_dry_62 : decode cX8_dry 62 = .ok (.iconst 0, 1) := by decide +kernel
theorem dX8_dry_63 : decode cX8_dry 63 = .ok (.invokevirtual 255, 3) := by decide +kernel
theorem dX8_dry_66 : decode cX8_dry 66 = .ok (.aload_n 0, 1) := by decide +kernel
theorem dX8_dry_67 : decode cX8_dry 67 = .ok (.getfield 252, 3) := by decide +kernel
theorem dX8_dry_70 : decode cX8_dry 70 = .ok (.iconst (-1), 1) := by decide +kernel
theorem dX8_dry_71 : decode cX8_dry 71 = .ok (.if_icmp .eq 7, 3) := by decide +kernel
theorem dX8_dry_74 : decode cX8_dry 74 = .ok (.iload_n 2, 1) := by decide +kernel
theorem dX8_dry_75 : decode cX8_dry 75 = .ok (.ifCond .ne 8, 3) := by decide +kernel
theorem dX8_dry_78 : decode cX8_dry 78 = .ok (.aload_n 0, 1) := by decide +kernel
theorem dX8_dry_79 : decode cX8_dry 79 = .ok (.getfield 252, 3) := by decide +kernel
theorem dX8_dry_82 : decode cX8_dry 82 = .ok (.ireturn, 1) := by decide +kernel
theorem dX8_dry_38 : decode cX8_dry 38 = .ok (.bipush (-3), 2) := by decide +kernel
theorem dX8_dry_40 : decode cX8_dry 40 = .ok (.ireturn, 1) := by decide +kernel
theorem dX8_dry_9 : decode cX8_dry 9 = .ok (.iload_n 2, 1) := by decide +kernel
theorem dX8_dry_10 : decode cX8_dry 10 = .ok (.i2l, 1) := by decide +kernel
theorem dX8_dry_11 : decode cX8_dry 11 = .ok (.ldc2_w 258, 3) := by decide +kernel
theorem mw_802 : Cond.constantLong RX8 258 (10) ∈ wsL_law := List.mem_of_getElem? (i := 802) (by decide +kernel)
theorem dX8_dry_14 : decode cX8_dry 14 = .ok (.ldc2_w 260, 3) := by decide +kernel
theorem mw_803 : Cond.constantLong RX8 260 (13) ∈ wsL_law := List.mem_of_getElem? (i := 803) (by decide +kernel)
theorem dX8_dry_17 : decode cX8_dry 17 = .ok (.invokestatic 131, 3) := by decide +kernel
theorem dX8_dry_20 : decode cX8_dry 20 = .ok (.ifCond .ne 6, 3) := by decide +kernel
theorem dX8_dry_83 : decode cX8_dry 83 = .ok (.iload_n 2, 1) := by decide +kernel
theorem dX8_dry_84 : decode cX8_dry 84 = .ok (.bipush 10, 2) := by decide +kernel
theorem dX8_dry_86 : decode cX8_dry 86 = .ok (.isub, 1) := by decide +kernel
theorem dX8_dry_87 : decode cX8_dry 87 = .ok (.iload_n 1, 1) := by decide +kernel
theorem dX8_dry_88 : decode cX8_dry 88 = .ok (.if_icmp .ge 15, 3) := by decide +kernel
theorem dX8_dry_103 : decode cX8_dry 103 = .ok (.iconst (-1), 1) := by decide +kernel
theorem dX8_dry_104 : decode cX8_dry 104 = .ok (.ireturn, 1) := by decide +kernel
theorem dX8_dry_91 : decode cX8_dry 91 = .ok (.aload_n 0, 1) := by decide +kernel
theorem dX8_dry_92 : decode cX8_dry 92 = .ok (.getfield 42, 3) := by decide +kernel
theorem dX8_dry_95 : decode cX8_dry 95 = .ok (.iload_n 2, 1) := by decide +kernel
theorem dX8_dry_96 : decode cX8_dry 96 = .ok (.bipush 10, 2) := by decide +kernel
theorem dX8_dry_98 : decode cX8_dry 98 = .ok (.isub, 1) := by decide +kernel
theorem dX8_dry_99 : decode cX8_dry 99 = .ok (.iaload, 1) := by decide +kernel
theorem dX8_dry_100 : decode cX8_dry 100 = .ok (.goto 4, 3) := by decide +kernel
theorem dX8_dry_23 : decode cX8_dry 23 = .ok (.bipush (-2), 2) := by decide +kernel
theorem dX8_dry_25 : decode cX8_dry 25 = .ok (.ireturn, 1) := by decide +kernel
theorem dX8_miceIn_0 : decode cX8_miceIn 0 = .ok (.aload_n 0, 1) := by decide +kernel
theorem dX8_miceIn_1 : decode cX8_miceIn 1 = .ok (.iconst 0, 1) := by decide +kernel
theorem dX8_miceIn_2 : decode cX8_miceIn 2 = .ok (.putfield 1, 3) := by decide +kernel
theorem dX8_miceIn_5 : decode cX8_miceIn 5 = .ok (.iload_n 1, 1) := by decide +kernel
theorem dX8_miceIn_6 : decode cX8_miceIn 6 = .ok (.i2l, 1) := by decide +kernel
theorem dX8_miceIn_7 : decode cX8_miceIn 7 = .ok (.lconst 0, 1) := by decide +kernel
theorem dX8_miceIn_8 : decode cX8_miceIn 8 = .ok (.ldc2_w 234, 3) := by decide +kernel
theorem dX8_miceIn_11 : decode cX8_miceIn 11 = .ok (.invokestatic 131, 3) := by decide +kernel
theorem dX8_miceIn_14 : decode cX8_miceIn 14 = .ok (.ifCond .eq 11, 3) := by decide +kernel
theorem dX8_miceIn_17 : decode cX8_miceIn 17 = .ok (.aload_n 0, 1) := by decide +kernel
theorem dX8_miceIn_18 : decode cX8_miceIn 18 = .ok (.iload_n 1, 1) := by decide +kernel
theorem dX8_miceIn_19 : decode cX8_miceIn 19 = .ok (.invokevirtual 269, 3) := by decide +kernel
theorem hd_yX8_miceBehind : HD yX8_miceBehind RX8 1 := by decide +kernel
theorem mw_843 : Cond.methodLink RX8 269 yX8_miceBehind ∈ wsL_law := List.mem_of_getElem? (i := 843) (by decide +kernel)
theorem mw_844 : Cond.instanceMethod yX8_miceBehind ∈ wsL_law := List.mem_of_getElem? (i := 844) (by decide +kernel)
theorem mw_845 : Cond.selects RX8 yX8_miceBehind yX8_miceBehind ∈ wsL_law := List.mem_of_getElem? (i := 845) (by decide +kernel)
theorem mw_846 : Cond.code yX8_miceBehind cX8_miceBehind 3 (some .int) ∈ wsL_law := List.mem_of_getElem? (i := 846) (by decide +kernel)
theorem dX8_miceIn_22 : decode cX8_miceIn 22 = .ok (.goto 5, 3) := by decide +kernel
theorem dX8_miceIn_27 : decode cX8_miceIn 27 = .ok (.ireturn, 1) := by decide +kernel
theorem dX8_miceIn_25 : decode cX8_miceIn 25 = .ok (.bipush (-3), 2) := by decide +kernel
theorem dX8_cats_0 : decode cX8_cats 0 = .ok (.aload_n 0, 1) := by decide +kernel
theorem dX8_cats_1 : decode cX8_cats 1 = .ok (.iconst 0, 1) := by decide +kernel
theorem dX8_cats_2 : decode cX8_cats 2 = .ok (.putfield 1, 3) := by decide +kernel
theorem dX8_cats_5 : decode cX8_cats 5 = .ok (.iload_n 1, 1) := by decide +kernel
theorem dX8_cats_6 : decode cX8_cats 6 = .ok (.i2l, 1) := by decide +kernel
theorem dX8_cats_7 : decode cX8_cats 7 = .ok (.lconst 1, 1) := by decide +kernel
theorem dX8_cats_8 : decode cX8_cats 8 = .ok (.ldc2_w 272, 3) := by decide +kernel
theorem mw_880 : Cond.constantLong RX8 272 (8) ∈ wsL_law := List.mem_of_getElem? (i := 880) (by decide +kernel)
theorem dX8_cats_11 : decode cX8_cats 11 = .ok (.invokestatic 131, 3) := by decide +kernel
theorem dX8_cats_14 : decode cX8_cats 14 = .ok (.ifCond .ne 6, 3) := by decide +kernel
theorem dX8_cats_20 : decode cX8_cats 20 = .ok (.iconst 0, 1) := by decide +kernel
theorem dX8_cats_21 : decode cX8_cats 21 = .ok (.istore_n 2, 1) := by decide +kernel
theorem dX8_cats_22 : decode cX8_cats 22 = .ok (.iconst 0, 1) := by decide +kernel
theorem dX8_cats_23 : decode cX8_cats 23 = .ok (.istore_n 3, 1) := by decide +kernel
theorem dX8_cats_24 : decode cX8_cats 24 = .ok (.iload_n 3, 1) := by decide +kernel
theorem dX8_cats_25 : decode cX8_cats 25 = .ok (.aload_n 0, 1) := by decide +kernel
theorem dX8_cats_26 : decode cX8_cats 26 = .ok (.getfield 13, 3) := by decide +kernel
theorem dX8_cats_29 : decode cX8_cats 29 = .ok (.iconst 0, 1) := by decide +kernel
theorem dX8_cats_30 : decode cX8_cats 30 = .ok (.iaload, 1) := by decide +kernel
theorem dX8_cats_31 : decode cX8_cats 31 = .ok (.if_icmp .ge 23, 3) := by decide +kernel
theorem dX8_cats_54 : decode cX8_cats 54 = .ok (.iconst (-1), 1) := by decide +kernel
theorem dX8_cats_55 : decode cX8_cats 55 = .ok (.istore_n 3, 1) := by decide +kernel
theorem dX8_cats_56 : decode cX8_cats 56 = .ok (.iconst 0, 1) := by decide +kernel
theorem dX8_cats_57 : decode cX8_cats 57 = .ok (.istore 4, 2) := by decide +kernel
theorem dX8_cats_59 : decode cX8_cats 59 = .ok (.iload 4, 2) := by decide +kernel
theorem dX8_cats_61 : decode cX8_cats 61 = .ok (.iconst 1, 1) := by decide +kernel
theorem dX8_cats_62 : decode cX8_cats 62 = .ok (.aload_n 0, 1) := by decide +kernel
theorem dX8_cats_63 : decode cX8_cats 63 = .ok (.getfield 13, 3) := by decide +kernel
theorem dX8_cats_66 : decode cX8_cats 66 = .ok (.iconst 0, 1) := by decide +kernel
theorem dX8_cats_67 : decode cX8_cats 67 = .ok (.iaload, 1) := by decide +kernel
theorem dX8_cats_68 : decode cX8_cats 68 = .ok (.ishl, 1) := by decide +kernel
theorem dX8_cats_69 : decode cX8_cats 69 = .ok (.if_icmp .ge 96, 3) := by decide +kernel
theorem dX8_cats_72 : decode cX8_cats 72 = .ok (.aload_n 0, 1) := by decide +kernel
theorem dX8_cats_73 : decode cX8_cats 73 = .ok (.iload 4, 2) := by decide +kernel
theorem dX8_cats_75 : decode cX8_cats 75 = .ok (.i2l, 1) := by decide +kernel
theorem dX8_cats_76 : decode cX8_cats 76 = .ok (.invokevirtual 241, 3) := by decide +kernel
theorem dX8_cats_79 : decode cX8_cats 79 = .ok (.ifCond .eq 80, 3) := by decide +kernel
theorem dX8_cats_82 : decode cX8_cats 82 = .ok (.iload_n 3, 1) := by decide +kernel
theorem dX8_cats_83 : decode cX8_cats 83 = .ok (.iconst (-1), 1) := by decide +kernel
theorem dX8_cats_84 : decode cX8_cats 84 = .ok (.if_icmp .eq 18, 3) := by decide +kernel
theorem dX8_cats_102 : decode cX8_cats 102 = .ok (.iconst 0, 1) := by decide +kernel
theorem dX8_cats_103 : decode cX8_cats 103 = .ok (.istore 5, 2) := by decide +kernel
theorem dX8_cats_105 : decode cX8_cats 105 = .ok (.iload 5, 2) := by decide +kernel
theorem dX8_cats_107 : decode cX8_cats 107 = .ok (.aload_n 0, 1) := by decide +kernel
theorem dX8_cats_108 : decode cX8_cats 108 = .ok (.getfield 13, 3) := by decide +kernel
theorem dX8_cats_111 : decode cX8_cats 111 = .ok (.iconst 0, 1) := by decide +kernel
theorem dX8_cats_112 : decode cX8_cats 112 = .ok (.iaload, 1) := by decide +kernel
theorem dX8_cats_113 : decode cX8_cats 113 = .ok (.if_icmp .ge 35, 3) := by decide +kernel
theorem dX8_cats_148 : decode cX8_cats 148 = .ok (.aload_n 0, 1) := by decide +kernel
theorem dX8_cats_149 : decode cX8_cats 149 = .ok (.iload_n 1, 1) := by decide +kernel
theorem dX8_cats_150 : decode cX8_cats 150 = .ok (.invokevirtual 269, 3) := by decide +kernel
theorem dX8_cats_153 : decode cX8_cats 153 = .ok (.ifCond .ne 6, 3) := by decide +kernel
theorem dX8_cats_156 : decode cX8_cats 156 = .ok (.iload 4, 2) := by decide +kernel
theorem dX8_cats_158 : decode cX8_cats 158 = .ok (.istore_n 3, 1) := by decide +kernel
theorem dX8_cats_159 : decode cX8_cats 159 = .ok (.iinc 4 1, 3) := by decide +kernel
theorem dX8_cats_162 : decode cX8_cats 162 = .ok (.goto (-103), 3) := by decide +kernel
theorem dX8_cats_165 : decode cX8_cats 165 = .ok (.iconst 0, 1) := by decide +kernel
theorem dX8_cats_166 : decode cX8_cats 166 = .ok (.istore 4, 2) := by decide +kernel
theorem dX8_cats_168 : decode cX8_cats 168 = .ok (.iload 4, 2) := by decide +kernel
theorem dX8_cats_170 : decode cX8_cats 170 = .ok (.aload_n 0, 1) := by decide +kernel
theorem dX8_cats_171 : decode cX8_cats 171 = .ok (.getfield 13, 3) := by decide +kernel
theorem dX8_cats_174 : decode cX8_cats 174 = .ok (.iconst 0, 1) := by decide +kernel
theorem dX8_cats_175 : decode cX8_cats 175 = .ok (.iaload, 1) := by decide +kernel
theorem dX8_cats_176 : decode cX8_cats 176 = .ok (.if_icmp .ge 34, 3) := by decide +kernel
theorem dX8_cats_210 : decode cX8_cats 210 = .ok (.iload_n 3, 1) := by decide +kernel
theorem dX8_cats_211 : decode cX8_cats 211 = .ok (.ireturn, 1) := by decide +kernel
theorem dX8_cats_17 : decode cX8_cats 17 = .ok (.bipush (-3), 2) := by decide +kernel
theorem dX8_cats_19 : decode cX8_cats 19 = .ok (.ireturn, 1) := by decide +kernel
theorem dX8_sparkIn_0 : decode cX8_sparkIn 0 = .ok (.aload_n 0, 1) := by decide +kernel
theorem dX8_sparkIn_1 : decode cX8_sparkIn 1 = .ok (.iconst 0, 1) := by decide +kernel
theorem dX8_sparkIn_2 : decode cX8_sparkIn 2 = .ok (.putfield 1, 3) := by decide +kernel
theorem dX8_sparkIn_5 : decode cX8_sparkIn 5 = .ok (.aload_n 0, 1) := by decide +kernel
theorem dX8_sparkIn_6 : decode cX8_sparkIn 6 = .ok (.iload_n 1, 1) := by decide +kernel
theorem dX8_sparkIn_7 : decode cX8_sparkIn 7 = .ok (.invokevirtual 274, 3) := by decide +kernel
theorem hd_yX8_sparkAt : HD yX8_sparkAt RX8 1 := by decide +kernel
theorem mw_908 : Cond.methodLink RX8 274 yX8_sparkAt ∈ wsL_law := List.mem_of_getElem? (i := 908) (by decide +kernel)
theorem mw_909 : Cond.instanceMethod yX8_sparkAt ∈ wsL_law := List.mem_of_getElem? (i := 909) (by decide +kernel)
theorem mw_910 : Cond.selects RX8 yX8_sparkAt yX8_sparkAt ∈ wsL_law := List.mem_of_getElem? (i := 910) (by decide +kernel)
theorem mw_911 : Cond.code yX8_sparkAt cX8_sparkAt 5 (some .int) ∈ wsL_law := List.mem_of_getElem? (i := 911) (by decide +kernel)
theorem dX8_sparkIn_10 : decode cX8_sparkIn 10 = .ok (.istore_n 3, 1) := by decide +kernel
theorem dX8_sparkIn_11 : decode cX8_sparkIn 11 = .ok (.iload_n 3, 1) := by decide +kernel
theorem dX8_sparkIn_12 : decode cX8_sparkIn 12 = .ok (.iconst (-1), 1) := by decide +kernel
theorem dX8_sparkIn_13 : decode cX8_sparkIn 13 = .ok (.if_icmp .ne 6, 3) := by decide +kernel
theorem dX8_sparkIn_16 : decode cX8_sparkIn 16 = .ok (.bipush (-2), 2) := by decide +kernel
theorem dX8_sparkIn_18 : decode cX8_sparkIn 18 = .ok (.ireturn, 1) := by decide +kernel
theorem dX8_outOf_0 : decode cX8_outOf 0 = .ok (.aload_n 0, 1) := by decide +kernel
theorem dX8_outOf_1 : decode cX8_outOf 1 = .ok (.iconst 0, 1) := by decide +kernel
theorem dX8_outOf_2 : decode cX8_outOf 2 = .ok (.putfield 1, 3) := by decide +kernel
theorem dX8_outOf_5 : decode cX8_outOf 5 = .ok (.iload_n 1, 1) := by decide +kernel
theorem dX8_outOf_6 : decode cX8_outOf 6 = .ok (.i2l, 1) := by decide +kernel
theorem dX8_outOf_7 : decode cX8_outOf 7 = .ok (.lconst 1, 1) := by decide +kernel
theorem dX8_outOf_8 : decode cX8_outOf 8 = .ok (.ldc2_w 179, 3) := by decide +kernel
theorem mw_459 : Cond.constantLong RX8 179 (6) ∈ wsL_law := List.mem_of_getElem? (i := 459) (by decide +kernel)
theorem dX8_outOf_11 : decode cX8_outOf 11 = .ok (.invokestatic 131, 3) := by decide +kernel
theorem dX8_outOf_14 : decode cX8_outOf 14 = .ok (.ifCond .ne 7, 3) := by decide +kernel
theorem dX8_outOf_21 : decode cX8_outOf 21 = .ok (.aload_n 0, 1) := by decide +kernel
theorem dX8_outOf_22 : decode cX8_outOf 22 = .ok (.sipush 289, 3) := by decide +kernel
theorem dX8_outOf_25 : decode cX8_outOf 25 = .ok (.invokevirtual 266, 3) := by decide +kernel
theorem dX8_outOf_28 : decode cX8_outOf 28 = .ok (.iconst 3, 1) := by decide +kernel
theorem dX8_outOf_29 : decode cX8_outOf 29 = .ok (.if_icmp .le 9, 3) := by decide +kernel
theorem dX8_outOf_38 : decode cX8_outOf 38 = .ok (.aload_n 0, 1) := by decide +kernel
theorem dX8_outOf_39 : decode cX8_outOf 39 = .ok (.getfield 13, 3) := by decide +kernel
theorem dX8_outOf_42 : decode cX8_outOf 42 = .ok (.iconst 5, 1) := by decide +kernel
theorem dX8_outOf_43 : decode cX8_outOf 43 = .ok (.iaload, 1) := by decide +kernel
theorem dX8_outOf_44 : decode cX8_outOf 44 = .ok (.iload_n 1, 1) := by decide +kernel
theorem dX8_outOf_45 : decode cX8_outOf 45 = .ok (.aload_n 0, 1) := by decide +kernel
theorem dX8_outOf_46 : decode cX8_outOf 46 = .ok (.sipush 289, 3) := by decide +kernel
theorem dX8_outOf_49 : decode cX8_outOf 49 = .ok (.invokevirtual 266, 3) := by decide +kernel
theorem dX8_outOf_52 : decode cX8_outOf 52 = .ok (.imul, 1) := by decide +kernel
theorem dX8_outOf_53 : decode cX8_outOf 53 = .ok (.invokestatic 280, 3) := by decide +kernel
theorem hd_yX8_power : HD yX8_power RX8 2 := by decide +kernel
theorem mw_948 : Cond.methodLink RX8 280 yX8_power ∈ wsL_law := List.mem_of_getElem? (i := 948) (by decide +kernel)
theorem mw_949 : Cond.static yX8_power ∈ wsL_law := List.mem_of_getElem? (i := 949) (by decide +kernel)
theorem mw_950 : Cond.code yX8_power cX8_power 5 (some .long) ∈ wsL_law := List.mem_of_getElem? (i := 950) (by decide +kernel)
theorem dX8_outOf_56 : decode cX8_outOf 56 = .ok (.lreturn, 1) := by decide +kernel
theorem dX8_outOf_17 : decode cX8_outOf 17 = .ok (.ldc2_w 286, 3) := by decide +kernel
theorem mw_942 : Cond.constantLong RX8 286 (-3) ∈ wsL_law := List.mem_of_getElem? (i := 942) (by decide +kernel)
theorem dX8_outOf_20 : decode cX8_outOf 20 = .ok (.lreturn, 1) := by decide +kernel
theorem dX8_open_0 : decode cX8_open 0 = .ok (.aload_n 0, 1) := by decide +kernel
theorem dX8_open_1 : decode cX8_open 1 = .ok (.iconst 0, 1) := by decide +kernel
theorem dX8_open_2 : decode cX8_open 2 = .ok (.putfield 1, 3) := by decide +kernel
theorem dX8_open_5 : decode cX8_open 5 = .ok (.iload_n 1, 1) := by decide +kernel
theorem dX8_open_6 : decode cX8_open 6 = .ok (.i2l, 1) := by decide +kernel
theorem dX8_open_7 : decode cX8_open 7 = .ok (.lconst 1, 1) := by decide +kernel
theorem dX8_open_8 : decode cX8_open 8 = .ok (.ldc2_w 179, 3) := by decide +kernel
theorem dX8_open_11 : decode cX8_open 11 = .ok (.invokestatic 131, 3) := by decide +kernel
theorem dX8_open_14 : decode cX8_open 14 = .ok (.ifCond .ne 6, 3) := by decide +kernel
theorem dX8_open_20 : decode cX8_open 20 = .ok (.aload_n 0, 1) := by decide +kernel
theorem dX8_open_21 : decode cX8_open 21 = .ok (.sipush 289, 3) := by decide +kernel
theorem dX8_open_24 : decode cX8_open 24 = .ok (.invokevirtual 266, 3) := by decide +kernel
theorem dX8_open_27 : decode cX8_open 27 = .ok (.iconst 3, 1) := by decide +kernel
theorem dX8_open_28 : decode cX8_open 28 = .ok (.if_icmp .le 6, 3) := by decide +kernel
theorem dX8_open_34 : decode cX8_open 34 = .ok (.iconst (-1), 1) := by decide +kernel
theorem dX8_open_35 : decode cX8_open 35 = .ok (.istore_n 2, 1) := by decide +kernel
theorem dX8_open_36 : decode cX8_open 36 = .ok (.lconst 0, 1) := by decide +kernel
theorem dX8_open_37 : decode cX8_open 37 = .ok (.lstore_n 3, 1) := by decide +kernel
theorem dX8_open_38 : decode cX8_open 38 = .ok (.iconst 0, 1) := by decide +kernel
theorem dX8_open_39 : decode cX8_open 39 = .ok (.istore 5, 2) := by decide +kernel
theorem dX8_open_41 : decode cX8_open 41 = .ok (.iload 5, 2) := by decide +kernel
theorem dX8_open_43 : decode cX8_open 43 = .ok (.aload_n 0, 1) := by decide +kernel
theorem dX8_open_44 : decode cX8_open 44 = .ok (.getfield 13, 3) := by decide +kernel
theorem dX8_open_47 : decode cX8_open 47 = .ok (.iconst 0, 1) := by decide +kernel
theorem dX8_open_48 : decode cX8_open 48 = .ok (.iaload, 1) := by decide +kernel
theorem dX8_open_49 : decode cX8_open 49 = .ok (.if_icmp .ge 34, 3) := by decide +kernel
theorem dX8_open_83 : decode cX8_open 83 = .ok (.iload_n 2, 1) := by decide +kernel
theorem dX8_open_84 : decode cX8_open 84 = .ok (.ireturn, 1) := by decide +kernel
theorem dX8_open_17 : decode cX8_open 17 = .ok (.bipush (-3), 2) := by decide +kernel
theorem dX8_open_19 : decode cX8_open 19 = .ok (.ireturn, 1) := by decide +kernel
theorem dX8_order_0 : decode cX8_order 0 = .ok (.aload_n 0, 1) := by decide +kernel
theorem dX8_order_1 : decode cX8_order 1 = .ok (.iconst 0, 1) := by decide +kernel
theorem dX8_order_2 : decode cX8_order 2 = .ok (.putfield 1, 3) := by decide +kernel
theorem dX8_order_5 : decode cX8_order 5 = .ok (.iload_n 1, 1) := by decide +kernel
theorem dX8_order_6 : decode cX8_order 6 = .ok (.i2l, 1) := by decide +kernel
theorem dX8_order_7 : decode cX8_order 7 = .ok (.lconst 0, 1) := by decide +kernel
theorem dX8_order_8 : decode cX8_order 8 = .ok (.ldc2_w 220, 3) := by decide +kernel
theorem dX8_order_11 : decode cX8_order 11 = .ok (.invokestatic 131, 3) := by decide +kernel
theorem dX8_order_14 : decode cX8_order 14 = .ok (.ifCond .eq 21, 3) := by decide +kernel
theorem dX8_order_17 : decode cX8_order 17 = .ok (.iload_n 2, 1) := by decide +kernel
theorem dX8_order_18 : decode cX8_order 18 = .ok (.ifCond .eq 20, 3) := by decide +kernel
theorem dX8_order_38 : decode cX8_order 38 = .ok (.aload_n 0, 1) := by decide +kernel
theorem dX8_order_39 : decode cX8_order 39 = .ok (.getfield 57, 3) := by decide +kernel
theorem dX8_order_42 : decode cX8_order 42 = .ok (.iload_n 1, 1) := by decide +kernel
theorem dX8_order_43 : decode cX8_order 43 = .ok (.iaload, 1) := by decide +kernel
theorem dX8_order_44 : decode cX8_order 44 = .ok (.iconst (-1), 1) := by decide +kernel
theorem dX8_order_45 : decode cX8_order 45 = .ok (.if_icmp .ne 6, 3) := by decide +kernel
theorem dX8_order_48 : decode cX8_order 48 = .ok (.bipush (-6), 2) := by decide +kernel
theorem dX8_order_50 : decode cX8_order 50 = .ok (.ireturn, 1) := by decide +kernel
theorem dX8_order_21 : decode cX8_order 21 = .ok (.iload_n 2, 1) := by decide +kernel
theorem dX8_order_22 : decode cX8_order 22 = .ok (.i2l, 1) := by decide +kernel
theorem dX8_order_23 : decode cX8_order 23 = .ok (.ldc2_w 258, 3) := by decide +kernel
theorem dX8_order_26 : decode cX8_order 26 = .ok (.ldc2_w 305, 3) := by decide +kernel
theorem mw_1010 : Cond.constantLong RX8 305 (19) ∈ wsL_law := List.mem_of_getElem? (i := 1010) (by decide +kernel)
theorem dX8_order_29 : decode cX8_order 29 = .ok (.invokestatic 131, 3) := by decide +kernel
theorem dX8_order_32 : decode cX8_order 32 = .ok (.ifCond .ne 6, 3) := by decide +kernel
theorem dX8_order_35 : decode cX8_order 35 = .ok (.bipush (-2), 2) := by decide +kernel
theorem dX8_order_37 : decode cX8_order 37 = .ok (.ireturn, 1) := by decide +kernel
theorem dX8_wetted_0 : decode cX8_wetted 0 = .ok (.aload_n 0, 1) := by decide +kernel
theorem dX8_wetted_1 : decode cX8_wetted 1 = .ok (.iconst 0, 1) := by decide +kernel
theorem dX8_wetted_2 : decode cX8_wetted 2 = .ok (.putfield 1, 3) := by decide +kernel
theorem dX8_wetted_5 : decode cX8_wetted 5 = .ok (.iload_n 1, 1) := by decide +kernel
theorem dX8_wetted_6 : decode cX8_wetted 6 = .ok (.i2l, 1) := by decide +kernel
theorem dX8_wetted_7 : decode cX8_wetted 7 = .ok (.lconst 0, 1) := by decide +kernel
theorem dX8_wetted_8 : decode cX8_wetted 8 = .ok (.ldc2_w 220, 3) := by decide +kernel
theorem dX8_wetted_11 : decode cX8_wetted 11 = .ok (.invokestatic 131, 3) := by decide +kernel
theorem dX8_wetted_14 : decode cX8_wetted 14 = .ok (.ifCond .eq 15, 3) := by decide +kernel
theorem dX8_wetted_17 : decode cX8_wetted 17 = .ok (.iload_n 2, 1) := by decide +kernel
theorem dX8_wetted_18 : decode cX8_wetted 18 = .ok (.i2l, 1) := by decide +kernel
theorem dX8_wetted_19 : decode cX8_wetted 19 = .ok (.lconst 0, 1) := by decide +kernel
theorem dX8_wetted_20 : decode cX8_wetted 20 = .ok (.ldc2_w 220, 3) := by decide +kernel
theorem dX8_wetted_23 : decode cX8_wetted 23 = .ok (.invokestatic 131, 3) := by decide +kernel
theorem dX8_wetted_26 : decode cX8_wetted 26 = .ok (.ifCond .ne 6, 3) := by decide +kernel
theorem dX8_wetted_32 : decode cX8_wetted 32 = .ok (.aload_n 0, 1) := by decide +kernel
theorem dX8_wetted_33 : decode cX8_wetted 33 = .ok (.getfield 57, 3) := by decide +kernel
theorem dX8_wetted_36 : decode cX8_wetted 36 = .ok (.iload_n 1, 1) := by decide +kernel
theorem dX8_wetted_37 : decode cX8_wetted 37 = .ok (.iaload, 1) := by decide +kernel
theorem dX8_wetted_38 : decode cX8_wetted 38 = .ok (.iconst (-1), 1) := by decide +kernel
theorem dX8_wetted_39 : decode cX8_wetted 39 = .ok (.if_icmp .eq 13, 3) := by decide +kernel
theorem dX8_wetted_52 : decode cX8_wetted 52 = .ok (.bipush (-6), 2) := by decide +kernel
theorem dX8_wetted_54 : decode cX8_wetted 54 = .ok (.ireturn, 1) := by decide +kernel
theorem dX8_wetted_29 : decode cX8_wetted 29 = .ok (.bipush (-2), 2) := by decide +kernel
theorem dX8_wetted_31 : decode cX8_wetted 31 = .ok (.ireturn, 1) := by decide +kernel
theorem dX8_past_0 : decode cX8_past 0 = .ok (.aload_n 0, 1) := by decide +kernel
theorem dX8_past_1 : decode cX8_past 1 = .ok (.iconst 0, 1) := by decide +kernel
theorem dX8_past_2 : decode cX8_past 2 = .ok (.putfield 1, 3) := by decide +kernel
theorem dX8_past_5 : decode cX8_past 5 = .ok (.iload_n 1, 1) := by decide +kernel
theorem dX8_past_6 : decode cX8_past 6 = .ok (.i2l, 1) := by decide +kernel
theorem dX8_past_7 : decode cX8_past 7 = .ok (.lconst 1, 1) := by decide +kernel
theorem dX8_past_8 : decode cX8_past 8 = .ok (.ldc2_w 220, 3) := by decide +kernel
theorem dX8_past_11 : decode cX8_past 11 = .ok (.invokestatic 131, 3) := by decide +kernel
theorem dX8_past_14 : decode cX8_past 14 = .ok (.ifCond .ne 6, 3) := by decide +kernel
theorem dX8_past_20 : decode cX8_past 20 = .ok (.aload_n 0, 1) := by decide +kernel
theorem dX8_past_21 : decode cX8_past 21 = .ok (.iload_n 1, 1) := by decide +kernel
theorem dX8_past_22 : decode cX8_past 22 = .ok (.invokevirtual 320, 3) := by decide +kernel
theorem hd_yX8_laysPast : HD yX8_laysPast RX8 1 := by decide +kernel
theorem mw_1084 : Cond.methodLink RX8 320 yX8_laysPast ∈ wsL_law := List.mem_of_getElem? (i := 1084) (by decide +kernel)
theorem mw_1085 : Cond.instanceMethod yX8_laysPast ∈ wsL_law := List.mem_of_getElem? (i := 1085) (by decide +kernel)
theorem mw_1086 : Cond.selects RX8 yX8_laysPast yX8_laysPast ∈ wsL_law := List.mem_of_getElem? (i := 1086) (by decide +kernel)
theorem mw_1087 : Cond.code yX8_laysPast cX8_laysPast 3 (some .int) ∈ wsL_law := List.mem_of_getElem? (i := 1087) (by decide +kernel)
theorem dX8_past_25 : decode cX8_past 25 = .ok (.istore_n 2, 1) := by decide +kernel
theorem dX8_past_26 : decode cX8_past 26 = .ok (.iload_n 2, 1) := by decide +kernel
theorem dX8_past_27 : decode cX8_past 27 = .ok (.ifCond .eq 7, 3) := by decide +kernel
theorem dX8_past_30 : decode cX8_past 30 = .ok (.iload_n 2, 1) := by decide +kernel
theorem dX8_past_31 : decode cX8_past 31 = .ok (.goto 7, 3) := by decide +kernel
theorem dX8_past_38 : decode cX8_past 38 = .ok (.ireturn, 1) := by decide +kernel
theorem dX8_past_17 : decode cX8_past 17 = .ok (.bipush (-3), 2) := by decide +kernel
theorem dX8_past_19 : decode cX8_past 19 = .ok (.ireturn, 1) := by decide +kernel
theorem dX8_sure_0 : decode cX8_sure 0 = .ok (.aload_n 0, 1) := by decide +kernel
theorem dX8_sure_1 : decode cX8_sure 1 = .ok (.iconst 0, 1) := by decide +kernel
theorem dX8_sure_2 : decode cX8_sure 2 = .ok (.putfield 1, 3) := by decide +kernel
theorem dX8_sure_5 : decode cX8_sure 5 = .ok (.iload_n 1, 1) := by decide +kernel
theorem dX8_sure_6 : decode cX8_sure 6 = .ok (.i2l, 1) := by decide +kernel
theorem dX8_sure_7 : decode cX8_sure 7 = .ok (.lconst 1, 1) := by decide +kernel
theorem dX8_sure_8 : decode cX8_sure 8 = .ok (.ldc2_w 220, 3) := by decide +kernel
theorem dX8_sure_11 : decode cX8_sure 11 = .ok (.invokestatic 131, 3) := by decide +kernel
theorem dX8_sure_14 : decode cX8_sure 14 = .ok (.ifCond .eq 16, 3) := by decide +kernel
theorem dX8_sure_17 : decode cX8_sure 17 = .ok (.iload_n 2, 1) := by decide +kernel
theorem dX8_sure_18 : decode cX8_sure 18 = .ok (.i2l, 1) := by decide +kernel
theorem dX8_sure_19 : decode cX8_sure 19 = .ok (.lconst 0, 1) := by decide +kernel
theorem dX8_sure_20 : decode cX8_sure 20 = .ok (.iload_n 1, 1) := by decide +kernel
theorem dX8_sure_21 : decode cX8_sure 21 = .ok (.iconst 1, 1) := by decide +kernel
theorem dX8_sure_22 : decode cX8_sure 22 = .ok (.isub, 1) := by decide +kernel
theorem dX8_sure_23 : decode cX8_sure 23 = .ok (.i2l, 1) := by decide +kernel
theorem dX8_sure_24 : decode cX8_sure 24 = .ok (.invokestatic 131, 3) := by decide +kernel
theorem dX8_sure_27 : decode cX8_sure 27 = .ok (.ifCond .ne 6, 3) := by decide +kernel
theorem dX8_sure_33 : decode cX8_sure 33 = .ok (.aload_n 0, 1) := by decide +kernel
theorem dX8_sure_34 : decode cX8_sure 34 = .ok (.iload_n 1, 1) := by decide +kernel
theorem dX8_sure_35 : decode cX8_sure 35 = .ok (.invokevirtual 320, 3) := by decide +kernel
theorem dX8_sure_38 : decode cX8_sure 38 = .ok (.istore_n 3, 1) := by decide +kernel
theorem dX8_sure_39 : decode cX8_sure 39 = .ok (.iload_n 3, 1) := by decide +kernel
theorem dX8_sure_40 : decode cX8_sure 40 = .ok (.ifCond .eq 7, 3) := by decide +kernel
theorem dX8_sure_43 : decode cX8_sure 43 = .ok (.iload_n 3, 1) := by decide +kernel
theorem dX8_sure_44 : decode cX8_sure 44 = .ok (.goto 20, 3) := by decide +kernel
theorem dX8_sure_64 : decode cX8_sure 64 = .ok (.ireturn, 1) := by decide +kernel
theorem dX8_sure_30 : decode cX8_sure 30 = .ok (.bipush (-3), 2) := by decide +kernel
theorem dX8_sure_32 : decode cX8_sure 32 = .ok (.ireturn, 1) := by decide +kernel
theorem dX8_causes_0 : decode cX8_causes 0 = .ok (.aload_n 0, 1) := by decide +kernel
theorem dX8_causes_1 : decode cX8_causes 1 = .ok (.iconst 0, 1) := by decide +kernel
theorem dX8_causes_2 : decode cX8_causes 2 = .ok (.putfield 1, 3) := by decide +kernel
theorem dX8_causes_5 : decode cX8_causes 5 = .ok (.aload_n 0, 1) := by decide +kernel
theorem dX8_causes_6 : decode cX8_causes 6 = .ok (.iload_n 1, 1) := by decide +kernel
theorem dX8_causes_7 : decode cX8_causes 7 = .ok (.i2l, 1) := by decide +kernel
theorem dX8_causes_8 : decode cX8_causes 8 = .ok (.invokevirtual 197, 3) := by decide +kernel
theorem dX8_causes_11 : decode cX8_causes 11 = .ok (.ifCond .ne 6, 3) := by decide +kernel
theorem dX8_causes_17 : decode cX8_causes 17 = .ok (.iconst 0, 1) := by decide +kernel
theorem dX8_causes_18 : decode cX8_causes 18 = .ok (.istore_n 2, 1) := by decide +kernel
theorem dX8_causes_19 : decode cX8_causes 19 = .ok (.iconst 0, 1) := by decide +kernel
theorem dX8_causes_20 : decode cX8_causes 20 = .ok (.istore_n 3, 1) := by decide +kernel
theorem dX8_causes_21 : decode cX8_causes 21 = .ok (.iload_n 3, 1) := by decide +kernel
theorem dX8_causes_22 : decode cX8_causes 22 = .ok (.aload_n 0, 1) := by decide +kernel
theorem dX8_causes_23 : decode cX8_causes 23 = .ok (.getfield 13, 3) := by decide +kernel
theorem dX8_causes_26 : decode cX8_causes 26 = .ok (.iconst 0, 1) := by decide +kernel
theorem dX8_causes_27 : decode cX8_causes 27 = .ok (.iaload, 1) := by decide +kernel
theorem dX8_causes_28 : decode cX8_causes 28 = .ok (.if_icmp .ge 80, 3) := by decide +kernel
theorem dX8_causes_108 : decode cX8_causes 108 = .ok (.iload_n 2, 1) := by decide +kernel
theorem dX8_causes_109 : decode cX8_causes 109 = .ok (.ireturn, 1) := by decide +kernel
theorem dX8_causes_14 : decode cX8_causes 14 = .ok (.bipush (-3), 2) := by decide +kernel
theorem dX8_causes_16 : decode cX8_causes 16 = .ok (.ireturn, 1) := by decide +kernel
theorem dX8_look_0 : decode cX8_look 0 = .ok (.aload_n 0, 1) := by decide +kernel
theorem dX8_look_1 : decode cX8_look 1 = .ok (.iconst 0, 1) := by decide +kernel
theorem dX8_look_2 : decode cX8_look 2 = .ok (.putfield 1, 3) := by decide +kernel
theorem dX8_look_5 : decode cX8_look 5 = .ok (.iconst 0, 1) := by decide +kernel
theorem dX8_look_6 : decode cX8_look 6 = .ok (.istore_n 1, 1) := by decide +kernel
theorem dX8_look_7 : decode cX8_look 7 = .ok (.iconst 0, 1) := by decide +kernel
theorem dX8_look_8 : decode cX8_look 8 = .ok (.istore_n 2, 1) := by decide +kernel
theorem dX8_look_9 : decode cX8_look 9 = .ok (.iload_n 2, 1) := by decide +kernel
theorem dX8_look_10 : decode cX8_look 10 = .ok (.aload_n 0, 1) := by decide +kernel
theorem dX8_look_11 : decode cX8_look 11 = .ok (.getfield 13, 3) := by decide +kernel
theorem dX8_look_14 : decode cX8_look 14 = .ok (.iconst 0, 1) := by decide +kernel
theorem dX8_look_15 : decode cX8_look 15 = .ok (.iaload, 1) := by decide +kernel
theorem dX8_look_16 : decode cX8_look 16 = .ok (.if_icmp .ge 47, 3) := by decide +kernel
theorem dX8_look_63 : decode cX8_look 63 = .ok (.iload_n 1, 1) := by decide +kernel
theorem dX8_look_64 : decode cX8_look 64 = .ok (.invokestatic 249, 3) := by decide +kernel
theorem hd_yX8_bitsOf : HD yX8_bitsOf RX8 1 := by decide +kernel
theorem mw_760 : Cond.methodLink RX8 249 yX8_bitsOf ∈ wsL_law := List.mem_of_getElem? (i := 760) (by decide +kernel)
theorem mw_761 : Cond.static yX8_bitsOf ∈ wsL_law := List.mem_of_getElem? (i := 761) (by decide +kernel)
theorem mw_762 : Cond.code yX8_bitsOf cX8_bitsOf 3 (some .int) ∈ wsL_law := List.mem_of_getElem? (i := 762) (by decide +kernel)
theorem dX8_look_67 : decode cX8_look 67 = .ok (.iconst 2, 1) := by decide +kernel
theorem dX8_look_68 : decode cX8_look 68 = .ok (.if_icmp .ge 5, 3) := by decide +kernel
theorem dX8_look_71 : decode cX8_look 71 = .ok (.iconst (-1), 1) := by decide +kernel
theorem dX8_look_72 : decode cX8_look 72 = .ok (.ireturn, 1) := by decide +kernel
theorem dX8_numbers_0 : decode cX8_numbers 0 = .ok (.aload_n 0, 1) := by decide +kernel
theorem dX8_numbers_1 : decode cX8_numbers 1 = .ok (.iconst 0, 1) := by decide +kernel
theorem dX8_numbers_2 : decode cX8_numbers 2 = .ok (.putfield 1, 3) := by decide +kernel
theorem dX8_numbers_5 : decode cX8_numbers 5 = .ok (.iload_n 1, 1) := by decide +kernel
theorem dX8_numbers_6 : decode cX8_numbers 6 = .ok (.i2l, 1) := by decide +kernel
theorem dX8_numbers_7 : decode cX8_numbers 7 = .ok (.lconst 0, 1) := by decide +kernel
theorem dX8_numbers_8 : decode cX8_numbers 8 = .ok (.ldc2_w 220, 3) := by decide +kernel
theorem dX8_numbers_11 : decode cX8_numbers 11 = .ok (.invokestatic 131, 3) := by decide +kernel
theorem dX8_numbers_14 : decode cX8_numbers 14 = .ok (.ifCond .eq 15, 3) := by decide +kernel
theorem dX8_numbers_17 : decode cX8_numbers 17 = .ok (.iload_n 2, 1) := by decide +kernel
theorem dX8_numbers_18 : decode cX8_numbers 18 = .ok (.i2l, 1) := by decide +kernel
theorem dX8_numbers_19 : decode cX8_numbers 19 = .ok (.lconst 0, 1) := by decide +kernel
theorem dX8_numbers_20 : decode cX8_numbers 20 = .ok (.ldc2_w 220, 3) := by decide +kernel
theorem dX8_numbers_23 : decode cX8_numbers 23 = .ok (.invokestatic 131, 3) := by decide +kernel
theorem dX8_numbers_26 : decode cX8_numbers 26 = .ok (.ifCond .ne 6, 3) := by decide +kernel
theorem dX8_numbers_32 : decode cX8_numbers 32 = .ok (.iload_n 3, 1) := by decide +kernel
theorem dX8_numbers_33 : decode cX8_numbers 33 = .ok (.i2l, 1) := by decide +kernel
theorem dX8_numbers_34 : decode cX8_numbers 34 = .ok (.lconst 0, 1) := by decide +kernel
theorem dX8_numbers_35 : decode cX8_numbers 35 = .ok (.ldc2_w 323, 3) := by decide +kernel
theorem mw_1139 : Cond.constantLong RX8 323 (40) ∈ wsL_law := List.mem_of_getElem? (i := 1139) (by decide +kernel)
theorem dX8_numbers_38 : decode cX8_numbers 38 = .ok (.invokestatic 131, 3) := by decide +kernel
theorem dX8_numbers_41 : decode cX8_numbers 41 = .ok (.ifCond .ne 6, 3) := by decide +kernel
theorem dX8_numbers_47 : decode cX8_numbers 47 = .ok (.aload_n 0, 1) := by decide +kernel
theorem dX8_numbers_48 : decode cX8_numbers 48 = .ok (.getfield 57, 3) := by decide +kernel
theorem dX8_numbers_51 : decode cX8_numbers 51 = .ok (.iload_n 1, 1) := by decide +kernel
theorem dX8_numbers_52 : decode cX8_numbers 52 = .ok (.iload_n 2, 1) := by decide +kernel
theorem dX8_numbers_53 : decode cX8_numbers 53 = .ok (.iastore, 1) := by decide +kernel
theorem dX8_numbers_54 : decode cX8_numbers 54 = .ok (.aload_n 0, 1) := by decide +kernel
theorem dX8_numbers_55 : decode cX8_numbers 55 = .ok (.getfield 60, 3) := by decide +kernel
theorem mw_106 : Cond.fieldLink RX8 60 "ThatchNextModel" "rowMany" "[I" ∈ wsL_law := List.mem_of_getElem? (i := 106) (by decide +kernel)
theorem dX8_numbers_58 : decode cX8_numbers 58 = .ok (.iload_n 1, 1) := by decide +kernel
theorem dX8_numbers_59 : decode cX8_numbers 59 = .ok (.iload_n 3, 1) := by decide +kernel
theorem dX8_numbers_60 : decode cX8_numbers 60 = .ok (.iastore, 1) := by decide +kernel
theorem dX8_numbers_61 : decode cX8_numbers 61 = .ok (.iconst 0, 1) := by decide +kernel
theorem dX8_numbers_62 : decode cX8_numbers 62 = .ok (.istore 4, 2) := by decide +kernel
theorem dX8_numbers_64 : decode cX8_numbers 64 = .ok (.iload 4, 2) := by decide +kernel
theorem dX8_numbers_66 : decode cX8_numbers 66 = .ok (.iload_n 3, 1) := by decide +kernel
theorem dX8_numbers_67 : decode cX8_numbers 67 = .ok (.if_icmp .ge 22, 3) := by decide +kernel
theorem dX8_numbers_89 : decode cX8_numbers 89 = .ok (.iconst 0, 1) := by decide +kernel
theorem dX8_numbers_90 : decode cX8_numbers 90 = .ok (.ireturn, 1) := by decide +kernel
theorem dX8_numbers_70 : decode cX8_numbers 70 = .ok (.aload_n 0, 1) := by decide +kernel
theorem dX8_numbers_71 : decode cX8_numbers 71 = .ok (.getfield 63, 3) := by decide +kernel
theorem mw_107 : Cond.fieldLink RX8 63 "ThatchNextModel" "numbers" "[J" ∈ wsL_law := List.mem_of_getElem? (i := 107) (by decide +kernel)
theorem dX8_numbers_74 : decode cX8_numbers 74 = .ok (.bipush 40, 2) := by decide +kernel
theorem dX8_numbers_76 : decode cX8_numbers 76 = .ok (.iload_n 1, 1) := by decide +kernel
theorem dX8_numbers_77 : decode cX8_numbers 77 = .ok (.imul, 1) := by decide +kernel
theorem dX8_numbers_78 : decode cX8_numbers 78 = .ok (.iload 4, 2) := by decide +kernel
theorem dX8_numbers_80 : decode cX8_numbers 80 = .ok (.iadd, 1) := by decide +kernel
theorem dX8_numbers_81 : decode cX8_numbers 81 = .ok (.lconst 0, 1) := by decide +kernel
theorem dX8_numbers_82 : decode cX8_numbers 82 = .ok (.lastore, 1) := by decide +kernel
theorem dX8_numbers_83 : decode cX8_numbers 83 = .ok (.iinc 4 1, 3) := by decide +kernel
theorem dX8_numbers_86 : decode cX8_numbers 86 = .ok (.goto (-22), 3) := by decide +kernel
theorem dX8_numbers_44 : decode cX8_numbers 44 = .ok (.bipush (-3), 2) := by decide +kernel
theorem dX8_numbers_46 : decode cX8_numbers 46 = .ok (.ireturn, 1) := by decide +kernel
theorem dX8_numbers_29 : decode cX8_numbers 29 = .ok (.bipush (-2), 2) := by decide +kernel
theorem dX8_numbers_31 : decode cX8_numbers 31 = .ok (.ireturn, 1) := by decide +kernel
theorem dX8_write_0 : decode cX8_write 0 = .ok (.aload_n 0, 1) := by decide +kernel
theorem dX8_write_1 : decode cX8_write 1 = .ok (.iconst 0, 1) := by decide +kernel
theorem dX8_write_2 : decode cX8_write 2 = .ok (.putfield 1, 3) := by decide +kernel
theorem dX8_write_5 : decode cX8_write 5 = .ok (.iload_n 1, 1) := by decide +kernel
theorem dX8_write_6 : decode cX8_write 6 = .ok (.i2l, 1) := by decide +kernel
theorem dX8_write_7 : decode cX8_write 7 = .ok (.lconst 0, 1) := by decide +kernel
theorem dX8_write_8 : decode cX8_write 8 = .ok (.ldc2_w 220, 3) := by decide +kernel
theorem dX8_write_11 : decode cX8_write 11 = .ok (.invokestatic 131, 3) := by decide +kernel
theorem dX8_write_14 : decode cX8_write 14 = .ok (.ifCond .ne 7, 3) := by decide +kernel
theorem dX8_write_21 : decode cX8_write 21 = .ok (.aload_n 0, 1) := by decide +kernel
theorem dX8_write_22 : decode cX8_write 22 = .ok (.getfield 57, 3) := by decide +kernel
theorem dX8_write_25 : decode cX8_write 25 = .ok (.iload_n 1, 1) := by decide +kernel
theorem dX8_write_26 : decode cX8_write 26 = .ok (.iaload, 1) := by decide +kernel
theorem dX8_write_27 : decode cX8_write 27 = .ok (.iconst (-1), 1) := by decide +kernel
theorem dX8_write_28 : decode cX8_write 28 = .ok (.if_icmp .ne 7, 3) := by decide +kernel
theorem dX8_write_31 : decode cX8_write 31 = .ok (.ldc2_w 325, 3) := by decide +kernel
theorem mw_1154 : Cond.constantLong RX8 325 (-6) ∈ wsL_law := List.mem_of_getElem? (i := 1154) (by decide +kernel)
theorem dX8_write_34 : decode cX8_write 34 = .ok (.lreturn, 1) := by decide +kernel
theorem dX8_write_17 : decode cX8_write 17 = .ok (.ldc2_w 284, 3) := by decide +kernel
theorem dX8_write_20 : decode cX8_write 20 = .ok (.lreturn, 1) := by decide +kernel
theorem dX8_image_0 : decode cX8_image 0 = .ok (.aload_n 0, 1) := by decide +kernel
theorem dX8_image_1 : decode cX8_image 1 = .ok (.iconst 0, 1) := by decide +kernel
theorem dX8_image_2 : decode cX8_image 2 = .ok (.putfield 1, 3) := by decide +kernel
theorem dX8_image_5 : decode cX8_image 5 = .ok (.iload_n 1, 1) := by decide +kernel
theorem dX8_image_6 : decode cX8_image 6 = .ok (.i2l, 1) := by decide +kernel
theorem dX8_image_7 : decode cX8_image 7 = .ok (.lconst 0, 1) := by decide +kernel
theorem dX8_image_8 : decode cX8_image 8 = .ok (.lconst 1, 1) := by decide +kernel
theorem dX8_image_9 : decode cX8_image 9 = .ok (.invokestatic 131, 3) := by decide +kernel
theorem dX8_image_12 : decode cX8_image 12 = .ok (.ifCond .ne 6, 3) := by decide +kernel
theorem dX8_image_18 : decode cX8_image 18 = .ok (.iconst 0, 1) := by decide +kernel
theorem dX8_image_19 : decode cX8_image 19 = .ok (.istore_n 2, 1) := by decide +kernel
theorem dX8_image_20 : decode cX8_image 20 = .ok (.iload_n 2, 1) := by decide +kernel
theorem dX8_image_21 : decode cX8_image 21 = .ok (.sipush 409, 3) := by decide +kernel
theorem dX8_image_24 : decode cX8_image 24 = .ok (.if_icmp .ge 29, 3) := by decide +kernel
theorem dX8_image_53 : decode cX8_image 53 = .ok (.aload_n 0, 1) := by decide +kernel
theorem dX8_image_54 : decode cX8_image 54 = .ok (.getfield 20, 3) := by decide +kernel
theorem dX8_image_57 : decode cX8_image 57 = .ok (.iload_n 1, 1) := by decide +kernel
theorem dX8_image_58 : decode cX8_image 58 = .ok (.iconst 1, 1) := by decide +kernel
theorem dX8_image_59 : decode cX8_image 59 = .ok (.bastore, 1) := by decide +kernel
theorem dX8_image_60 : decode cX8_image 60 = .ok (.iconst 0, 1) := by decide +kernel
theorem dX8_image_61 : decode cX8_image 61 = .ok (.ireturn, 1) := by decide +kernel
theorem dX8_image_27 : decode cX8_image 27 = .ok (.aload_n 0, 1) := by decide +kernel
theorem dX8_image_28 : decode cX8_image 28 = .ok (.getfield 13, 3) := by decide +kernel
theorem dX8_image_31 : decode cX8_image 31 = .ok (.sipush 409, 3) := by decide +kernel
theorem dX8_image_34 : decode cX8_image 34 = .ok (.iload_n 1, 1) := by decide +kernel
theorem dX8_image_35 : decode cX8_image 35 = .ok (.iconst 1, 1) := by decide +kernel
theorem dX8_image_36 : decode cX8_image 36 = .ok (.iadd, 1) := by decide +kernel
theorem dX8_image_37 : decode cX8_image 37 = .ok (.imul, 1) := by decide +kernel
theorem dX8_image_38 : decode cX8_image 38 = .ok (.iload_n 2, 1) := by decide +kernel
theorem dX8_image_39 : decode cX8_image 39 = .ok (.iadd, 1) := by decide +kernel
theorem dX8_image_40 : decode cX8_image 40 = .ok (.aload_n 0, 1) := by decide +kernel
theorem dX8_image_41 : decode cX8_image 41 = .ok (.getfield 13, 3) := by decide +kernel
theorem dX8_image_44 : decode cX8_image 44 = .ok (.iload_n 2, 1) := by decide +kernel
theorem dX8_image_45 : decode cX8_image 45 = .ok (.iaload, 1) := by decide +kernel
theorem dX8_image_46 : decode cX8_image 46 = .ok (.iastore, 1) := by decide +kernel
theorem dX8_image_47 : decode cX8_image 47 = .ok (.iinc 2 1, 3) := by decide +kernel
theorem dX8_image_50 : decode cX8_image 50 = .ok (.goto (-30), 3) := by decide +kernel
theorem dX8_image_15 : decode cX8_image 15 = .ok (.bipush (-2), 2) := by decide +kernel
theorem dX8_image_17 : decode cX8_image 17 = .ok (.ireturn, 1) := by decide +kernel
theorem dX8_restore_0 : decode cX8_restore 0 = .ok (.aload_n 0, 1) := by decide +kernel
theorem dX8_restore_1 : decode cX8_restore 1 = .ok (.iconst 0, 1) := by decide +kernel
theorem dX8_restore_2 : decode cX8_restore 2 = .ok (.putfield 1, 3) := by decide +kernel
theorem dX8_restore_5 : decode cX8_restore 5 = .ok (.iload_n 1, 1) := by decide +kernel
theorem dX8_restore_6 : decode cX8_restore 6 = .ok (.i2l, 1) := by decide +kernel
theorem dX8_restore_7 : decode cX8_restore 7 = .ok (.lconst 0, 1) := by decide +kernel
theorem dX8_restore_8 : decode cX8_restore 8 = .ok (.lconst 1, 1) := by decide +kernel
theorem dX8_restore_9 : decode cX8_restore 9 = .ok (.invokestatic 131, 3) := by decide +kernel
theorem dX8_restore_12 : decode cX8_restore 12 = .ok (.ifCond .ne 6, 3) := by decide +kernel
theorem dX8_restore_18 : decode cX8_restore 18 = .ok (.aload_n 0, 1) := by decide +kernel
theorem dX8_restore_19 : decode cX8_restore 19 = .ok (.getfield 20, 3) := by decide +kernel
theorem dX8_restore_22 : decode cX8_restore 22 = .ok (.iload_n 1, 1) := by decide +kernel
theorem dX8_restore_23 : decode cX8_restore 23 = .ok (.baload, 1) := by decide +kernel
theorem dX8_restore_24 : decode cX8_restore 24 = .ok (.ifCond .ne 6, 3) := by decide +kernel
theorem dX8_restore_27 : decode cX8_restore 27 = .ok (.bipush (-5), 2) := by decide +kernel
theorem dX8_restore_29 : decode cX8_restore 29 = .ok (.ireturn, 1) := by decide +kernel
theorem dX8_restore_15 : decode cX8_restore 15 = .ok (.bipush (-2), 2) := by decide +kernel
theorem dX8_restore_17 : decode cX8_restore 17 = .ok (.ireturn, 1) := by decide +kernel
theorem dX8_count_0 : decode cX8_count 0 = .ok (.aload_n 0, 1) := by decide +kernel
theorem dX8_count_1 : decode cX8_count 1 = .ok (.iconst 0, 1) := by decide +kernel
theorem dX8_count_2 : decode cX8_count 2 = .ok (.putfield 1, 3) := by decide +kernel
theorem dX8_count_5 : decode cX8_count 5 = .ok (.iload_n 1, 1) := by decide +kernel
theorem dX8_count_6 : decode cX8_count 6 = .ok (.tableswitch 167 0 13 #[70, 77, 84, 91, 98, 105, 112, 117, 125, 133, 138, 146, 151, 159], 70) := by decide +kernel
theorem dX8_count_76 : decode cX8_count 76 = .ok (.aload_n 0, 1) := by decide +kernel
theorem dX8_count_77 : decode cX8_count 77 = .ok (.getfield 13, 3) := by decide +kernel
theorem dX8_count_80 : decode cX8_count 80 = .ok (.iconst 0, 1) := by decide +kernel
theorem dX8_count_81 : decode cX8_count 81 = .ok (.iaload, 1) := by decide +kernel
theorem dX8_count_82 : decode cX8_count 82 = .ok (.ireturn, 1) := by decide +kernel
theorem dX8_count_83 : decode cX8_count 83 = .ok (.aload_n 0, 1) := by decide +kernel
theorem dX8_count_84 : decode cX8_count 84 = .ok (.getfield 13, 3) := by decide +kernel
theorem dX8_count_87 : decode cX8_count 87 = .ok (.iconst 1, 1) := by decide +kernel
theorem dX8_count_88 : decode cX8_count 88 = .ok (.iaload, 1) := by decide +kernel
theorem dX8_count_89 : decode cX8_count 89 = .ok (.ireturn, 1) := by decide +kernel
theorem dX8_count_90 : decode cX8_count 90 = .ok (.aload_n 0, 1) := by decide +kernel
theorem dX8_count_91 : decode cX8_count 91 = .ok (.getfield 13, 3) := by decide +kernel
theorem dX8_count_94 : decode cX8_count 94 = .ok (.iconst 2, 1) := by decide +kernel
theorem dX8_count_95 : decode cX8_count 95 = .ok (.iaload, 1) := by decide +kernel
theorem dX8_count_96 : decode cX8_count 96 = .ok (.ireturn, 1) := by decide +kernel
theorem dX8_count_97 : decode cX8_count 97 = .ok (.aload_n 0, 1) := by decide +kernel
theorem dX8_count_98 : decode cX8_count 98 = .ok (.getfield 13, 3) := by decide +kernel
theorem dX8_count_101 : decode cX8_count 101 = .ok (.iconst 3, 1) := by decide +kernel
theorem dX8_count_102 : decode cX8_count 102 = .ok (.iaload, 1) := by decide +kernel
theorem dX8_count_103 : decode cX8_count 103 = .ok (.ireturn, 1) := by decide +kernel
theorem dX8_count_104 : decode cX8_count 104 = .ok (.aload_n 0, 1) := by decide +kernel
theorem dX8_count_105 : decode cX8_count 105 = .ok (.getfield 13, 3) := by decide +kernel
theorem dX8_count_108 : decode cX8_count 108 = .ok (.iconst 4, 1) := by decide +kernel
theorem dX8_count_109 : decode cX8_count 109 = .ok (.iaload, 1) := by decide +kernel
theorem dX8_count_110 : decode cX8_count 110 = .ok (.ireturn, 1) := by decide +kernel
theorem dX8_count_111 : decode cX8_count 111 = .ok (.aload_n 0, 1) := by decide +kernel
theorem dX8_count_112 : decode cX8_count 112 = .ok (.getfield 13, 3) := by decide +kernel
theorem dX8_count_115 : decode cX8_count 115 = .ok (.iconst 5, 1) := by decide +kernel
theorem dX8_count_116 : decode cX8_count 116 = .ok (.iaload, 1) := by decide +kernel
theorem dX8_count_117 : decode cX8_count 117 = .ok (.ireturn, 1) := by decide +kernel
theorem dX8_count_118 : decode cX8_count 118 = .ok (.aload_n 0, 1) := by decide +kernel
theorem dX8_count_119 : decode cX8_count 119 = .ok (.invokevirtual 333, 3) := by decide +kernel
theorem hd_yX8_layersAll : HD yX8_layersAll RX8 0 := by decide +kernel
theorem mw_1203 : Cond.methodLink RX8 333 yX8_layersAll ∈ wsL_law := List.mem_of_getElem? (i := 1203) (by decide +kernel)
theorem mw_1204 : Cond.instanceMethod yX8_layersAll ∈ wsL_law := List.mem_of_getElem? (i := 1204) (by decide +kernel)
theorem mw_1205 : Cond.selects RX8 yX8_layersAll yX8_layersAll ∈ wsL_law := List.mem_of_getElem? (i := 1205) (by decide +kernel)
theorem mw_1206 : Cond.code yX8_layersAll cX8_layersAll 3 (some .int) ∈ wsL_law := List.mem_of_getElem? (i := 1206) (by decide +kernel)
theorem dX8_count_122 : decode cX8_count 122 = .ok (.ireturn, 1) := by decide +kernel
theorem dX8_count_123 : decode cX8_count 123 = .ok (.aload_n 0, 1) := by decide +kernel
theorem dX8_count_124 : decode cX8_count 124 = .ok (.sipush 289, 3) := by decide +kernel
theorem dX8_count_127 : decode cX8_count 127 = .ok (.invokevirtual 266, 3) := by decide +kernel
theorem dX8_count_130 : decode cX8_count 130 = .ok (.ireturn, 1) := by decide +kernel
theorem dX8_count_131 : decode cX8_count 131 = .ok (.aload_n 0, 1) := by decide +kernel
theorem dX8_count_132 : decode cX8_count 132 = .ok (.sipush 229, 3) := by decide +kernel
theorem dX8_count_135 : decode cX8_count 135 = .ok (.invokevirtual 266, 3) := by decide +kernel
theorem dX8_count_138 : decode cX8_count 138 = .ok (.ireturn, 1) := by decide +kernel
theorem dX8_count_139 : decode cX8_count 139 = .ok (.aload_n 0, 1) := by decide +kernel
theorem dX8_count_140 : decode cX8_count 140 = .ok (.invokevirtual 225, 3) := by decide +kernel
theorem dX8_count_143 : decode cX8_count 143 = .ok (.ireturn, 1) := by decide +kernel
theorem dX8_count_144 : decode cX8_count 144 = .ok (.aload_n 0, 1) := by decide +kernel
theorem dX8_count_145 : decode cX8_count 145 = .ok (.getfield 13, 3) := by decide +kernel
theorem dX8_count_148 : decode cX8_count 148 = .ok (.bipush 6, 2) := by decide +kernel
theorem dX8_count_150 : decode cX8_count 150 = .ok (.iaload, 1) := by decide +kernel
theorem dX8_count_151 : decode cX8_count 151 = .ok (.ireturn, 1) := by decide +kernel
theorem dX8_count_152 : decode cX8_count 152 = .ok (.aload_n 0, 1) := by decide +kernel
theorem dX8_count_153 : decode cX8_count 153 = .ok (.getfield 71, 3) := by decide +kernel
theorem dX8_count_156 : decode cX8_count 156 = .ok (.ireturn, 1) := by decide +kernel
theorem dX8_count_157 : decode cX8_count 157 = .ok (.aload_n 0, 1) := by decide +kernel
theorem dX8_count_158 : decode cX8_count 158 = .ok (.getfield 13, 3) := by decide +kernel
theorem dX8_count_161 : decode cX8_count 161 = .ok (.bipush 7, 2) := by decide +kernel
theorem dX8_count_163 : decode cX8_count 163 = .ok (.iaload, 1) := by decide +kernel
theorem dX8_count_164 : decode cX8_count 164 = .ok (.ireturn, 1) := by decide +kernel
theorem dX8_count_165 : decode cX8_count 165 = .ok (.aload_n 0, 1) := by decide +kernel
theorem dX8_count_166 : decode cX8_count 166 = .ok (.sipush 169, 3) := by decide +kernel
theorem dX8_count_169 : decode cX8_count 169 = .ok (.invokevirtual 266, 3) := by decide +kernel
theorem dX8_count_172 : decode cX8_count 172 = .ok (.ireturn, 1) := by decide +kernel
theorem dX8_count_173 : decode cX8_count 173 = .ok (.iconst (-1), 1) := by decide +kernel
theorem dX8_count_174 : decode cX8_count 174 = .ok (.ireturn, 1) := by decide +kernel
set_option maxHeartbeats 4000000 in
set_option maxRecDepth 100000 in
theorem c_M_feed (l : Launch) (D : va_G) (k : Nat → ClassId) (mm : Nat → Nat) (a : Int32) (x : Int32) (z : Int32) (g : Int32) (h : Int32) (sz : Nat) : Met l yX8_feed (Cond.code yX8_feed cX8_feed 8 (some .int) :: wsL_law) ({ frames := 0, cells := 0, slots := 0, locals := 0 } : Room) (va_Pc [.ref (mm 0), .int a, .int x, .int z, .int g, .int h] (pu D k sz [((mm 0), .inr (7, [.int 0, .ref (mm 1), .ref (mm 2), .ref (mm 3), .ref (mm 4), .ref (mm 5), .int 0, .int 0, .int 0, .int 0, .int 0, .int 0, .int 0, .int 0, .int 0, .int (-1), .int 0, .ref (mm 6), .int 0, .ref (mm 7), .ref (mm 8), .ref (mm 9), .int 0, .ref (mm 10), .ref (mm 11), .int 0, .int 0, .ref (mm 12), .ref (mm 13), .int 0, .ref (mm 14), .ref (mm 15), .ref (mm 16)])), ((mm 4), .inl (k 0, 900, .inl (fun _ => 0)))])) (va_Qi (fun rr (uu : Unit) => rr = 20) (qu D (va_A [((mm 0), .inr (7, [.int 0, .ref (mm 1), .ref (mm 2), .ref (mm 3), .ref (mm 4), .ref (mm 5), .int 0, .int 0, .int 0, .int 0, .int 0, .int 0, .int 0, .int 0, .int 0, .int (-1), .int 0, .ref (mm 6), .int 0, .ref (mm 7), .ref (mm 8), .ref (mm 9), .int 0, .ref (mm 10), .ref (mm 11), .int 0, .int 0, .ref (mm 12), .ref (mm 13), .int 0, .ref (mm 14), .ref (mm 15), .ref (mm 16)])), ((mm 4), .inl (k 0, 900, .inl (fun _ => 0)))] sz) (fun uu : Unit => [])) (va_A [((mm 0), .inr (7, [.int 0, .ref (mm 1), .ref (mm 2), .ref (mm 3), .ref (mm 4), .ref (mm 5), .int 0, .int 0, .int 0, .int 0, .int 0, .int 0, .int 0, .int 0, .int 0, .int (-1), .int 0, .ref (mm 6), .int 0, .ref (mm 7), .ref (mm 8), .ref (mm 9), .int 0, .ref (mm 10), .ref (mm 11), .int 0, .int 0, .ref (mm 12), .ref (mm 13), .int 0, .ref (mm 14), .ref (mm 15), .ref (mm 16)])), ((mm 4), .inl (k 0, 900, .inl (fun _ => 0)))] sz)) 0 0 (va_A [((mm 0), .inr (7, [.int 0, .ref (mm 1), .ref (mm 2), .ref (mm 3), .ref (mm 4), .ref (mm 5), .int 0, .int 0, .int 0, .int 0, .int 0, .int 0, .int 0, .int 0, .int 0, .int (-1), .int 0, .ref (mm 6), .int 0, .ref (mm 7), .ref (mm 8), .ref (mm 9), .int 0, .ref (mm 10), .ref (mm 11), .int 0, .int 0, .ref (mm 12), .ref (mm 13), .int 0, .ref (mm 14), .ref (mm 15), .ref (mm 16)])), ((mm 4), .inl (k 0, 900, .inl (fun _ => 0)))] sz) := by
  refine Met.ofW (cc := cX8_feed) (maxL := 8) (ret := (some .int)) (by decide) rfl ?_
  intro p e s m args below meth c s₁ B hml hv
  obtain ⟨rfl, hsz, hP, hK, hD0⟩ := hv
  have hx := B.exec
  have hb := B.bytes
  have hr := B.returns
  have hts : ∀ w ∈ wsL_law, w.before _ s = true := fun w h => atoms_spec (ws := Cond.code yX8_feed cX8_feed 8 (some .int) :: wsL_law) B.pre w (List.mem_cons_of_mem _ h)
  have hown : s.vm.findClass RX8 = some m.cls := findClass_of_methodNamed B.named
  have hlocks := B.notSynchronized
  subst hsz
  have hD := hD0.self (sz := s.heap.size)
  generalize hAe : va_A [((mm 0), .inr (7, [.int 0, .ref (mm 1), .ref (mm 2), .ref (mm 3), .ref (mm 4), .ref (mm 5), .int 0, .int 0, .int 0, .int 0, .int 0, .int 0, .int 0, .int 0, .int 0, .int (-1), .int 0, .ref (mm 6), .int 0, .ref (mm 7), .ref (mm 8), .ref (mm 9), .int 0, .ref (mm 10), .ref (mm 11), .int 0, .int 0, .ref (mm 12), .ref (mm 13), .int 0, .ref (mm 14), .ref (mm 15), .ref (mm 16)])), ((mm 4), .inl (k 0, 900, .inl (fun _ => 0)))] s.heap.size = A at hD ⊢
  have hA : ∀ q : Nat, s.heap.size ≤ q → A q := fun q h => by rw [← hAe]; exact Or.inr h
  have hS : va_S A s.heap s.heap [] := va_S.rf
  have hP : va_P D vwCl [((mm 0), .inr (7, [.int 0, .ref (mm 1), .ref (mm 2), .ref (mm 3), .ref (mm 4), .ref (mm 5), .int 0, .int 0, .int 0, .int 0, .int 0, .int 0, .int 0, .int 0, .int 0, .int (-1), .int 0, .ref (mm 6), .int 0, .ref (mm 7), .ref (mm 8), .ref (mm 9), .int 0, .ref (mm 10), .ref (mm 11), .int 0, .int 0, .ref (mm 12), .ref (mm 13), .int 0, .ref (mm 14), .ref (mm 15), .ref (mm 16)])), ((mm 4), .inl (k 0, 900, .inl (fun _ => 0)))] s.heap := hP
  have hl := lv_entry ([.ref (mm 0), .int a, .int x, .int z, .int g, .int h]) (n := 8) (Nat.le_of_ble_eq_true rfl)
  rw [lg_entry_eq]
  generalize (lg_sl ([.ref (mm 0), .int a, .int x, .int z, .int g, .int h]) ++ List.replicate (8 - (lg_sl ([.ref (mm 0), .int a, .int x, .int z, .int g, .int h])).length) Slot.unset).toArray = ls at hl ⊢
  have hl : lv_has ls 8 [(0, .ref (mm 0)), (1, .int a), (2, .int x), (3, .int z), (4, .int g), (5, .int h)] := hl
  refine lv_aload_n hx hb dX8_feed_0 rfl (lv_at hl 0 rfl) ?_
  refine lv_iconst (v := 0) hx hb dX8_feed_1 (by decide) ?_
  refine va_put (D := D) (ci := 7) (v := .int 0) (ty := .int) (C := RX8) (T := TX8) (N := 33) hx hb hts inlX8 tyX8 tyX8_ok nmX8 hown hK hP hD hS 0 rfl rfl 0 (by decide) (hts _ mw_125) (fun _ h9 => h9) rfl (by decide +kernel) rfl rfl (Nat.le_of_ble_eq_true rfl) dX8_feed_2 (fun H locs hP hD hS => ?_)
  have hP : va_P D vwCl [((mm 0), .inr (7, [.int 0, .ref (mm 1), .ref (mm 2), .ref (mm 3), .ref (mm 4), .ref (mm 5), .int 0, .int 0, .int 0, .int 0, .int 0, .int 0, .int 0, .int 0, .int 0, .int (-1), .int 0, .ref (mm 6), .int 0, .ref (mm 7), .ref (mm 8), .ref (mm 9), .int 0, .ref (mm 10), .ref (mm 11), .int 0, .int 0, .ref (mm 12), .ref (mm 13), .int 0, .ref (mm 14), .ref (mm 15), .ref (mm 16)])), ((mm 4), .inl (k 0, 900, .inl (fun _ => 0)))] H := hP
  have hD : va_D A [((mm 0), .inr (7, [.int 0, .ref (mm 1), .ref (mm 2), .ref (mm 3), .ref (mm 4), .ref (mm 5), .int 0, .int 0, .int 0, .int 0, .int 0, .int 0, .int 0, .int 0, .int 0, .int (-1), .int 0, .ref (mm 6), .int 0, .ref (mm 7), .ref (mm 8), .ref (mm 9), .int 0, .ref (mm 10), .ref (mm 11), .int 0, .int 0, .ref (mm 12), .ref (mm 13), .int 0, .ref (mm 14), .ref (mm 15), .ref (mm 16)])), ((mm 4), .inl (k 0, 900, .inl (fun _ => 0)))] := hD
  refine lv_aload_n hx hb dX8_feed_5 rfl (lv_at hl 0 rfl) ?_
  refine va_get (D := D) (ci := 7) (v := .int 0) (C := RX8) (T := TX8) (N := 33) hx hb hts inlX8 hown hK hP 0 rfl rfl 6 (by decide) (hts _ mw_126) (fun _ h9 => h9) rfl dX8_feed_6 ?_
  refine lv_bipush (v := 20) hx hb dX8_feed_9 (by decide) ?_
  refine lv_iadd hx hb dX8_feed_11 ?_
  refine lv_ni (v := 20) (by decide) ?_
  refine lv_sipush (v := 900) hx hb dX8_feed_12 (by decide) ?_
  refine lv_icmp_le (tgt := 21) hx hb dX8_feed_15 (by decide) (fun _ => ?_) (fun c9 => absurd c9 (by decide))
  refine lv_iconst (v := 0) hx hb dX8_feed_21 (by decide) ?_
  refine lv_istore (lv' := [(6, .int 0), (0, .ref (mm 0)), (1, .int a), (2, .int x), (3, .int z), (4, .int g), (5, .int h)]) hx hb dX8_feed_22 hl (by decide) rfl (fun ls hl => ?_)
  refine W_loop (σ := Int32 × (Nat → Int32)) (fun xx H locs ls => (0 ≤ xx.1.toInt ∧ xx.1.toInt ≤ 20) ∧ va_P D vwCl [((mm 0), .inr (7, [.int 0, .ref (mm 1), .ref (mm 2), .ref (mm 3), .ref (mm 4), .ref (mm 5), .int xx.1, .int 0, .int 0, .int 0, .int 0, .int 0, .int 0, .int 0, .int 0, .int (-1), .int 0, .ref (mm 6), .int 0, .ref (mm 7), .ref (mm 8), .ref (mm 9), .int 0, .ref (mm 10), .ref (mm 11), .int 0, .int 0, .ref (mm 12), .ref (mm 13), .int 0, .ref (mm 14), .ref (mm 15), .ref (mm 16)])), ((mm 4), .inl (k 0, 900, .inl xx.2))] H ∧ va_D A [((mm 0), .inr (7, [.int 0, .ref (mm 1), .ref (mm 2), .ref (mm 3), .ref (mm 4), .ref (mm 5), .int xx.1, .int 0, .int 0, .int 0, .int 0, .int 0, .int 0, .int 0, .int 0, .int (-1), .int 0, .ref (mm 6), .int 0, .ref (mm 7), .ref (mm 8), .ref (mm 9), .int 0, .ref (mm 10), .ref (mm 11), .int 0, .int 0, .ref (mm 12), .ref (mm 13), .int 0, .ref (mm 14), .ref (mm 15), .ref (mm 16)])), ((mm 4), .inl (k 0, 900, .inl xx.2))] ∧ va_S A s.heap H locs ∧ lv_has ls 8 [(6, .int xx.1), (0, .ref (mm 0)), (1, .int a), (2, .int x), (3, .int z), (4, .int g), (5, .int h)]) (fun xx => (20 - xx.1.toInt).toNat) ?_ (0, (fun _ => 0)) _ _ ls ⟨(show 0 ≤ (0 : Int32).toInt ∧ (0 : Int32).toInt ≤ 20 from ⟨by decide, by decide⟩), hP.sub [0, 1] rfl, hD.sub [0, 1] (by decide) rfl, hS, lv_sub hl [0, 1, 2, 3, 4, 5, 6] rfl⟩
  intro xx H locs ls hI ih
  obtain ⟨i_1, f_2⟩ := xx
  obtain ⟨h_3, hP, hD, hS, hl⟩ := hI
  have h_3 : 0 ≤ i_1.toInt ∧ i_1.toInt ≤ 20 := h_3
  obtain ⟨h_3a, h_3b⟩ := h_3
  have hP : va_P D vwCl [((mm 0), .inr (7, [.int 0, .ref (mm 1), .ref (mm 2), .ref (mm 3), .ref (mm 4), .ref (mm 5), .int i_1, .int 0, .int 0, .int 0, .int 0, .int 0, .int 0, .int 0, .int 0, .int (-1), .int 0, .ref (mm 6), .int 0, .ref (mm 7), .ref (mm 8), .ref (mm 9), .int 0, .ref (mm 10), .ref (mm 11), .int 0, .int 0, .ref (mm 12), .ref (mm 13), .int 0, .ref (mm 14), .ref (mm 15), .ref (mm 16)])), ((mm 4), .inl (k 0, 900, .inl f_2))] H := hP
  have hD : va_D A [((mm 0), .inr (7, [.int 0, .ref (mm 1), .ref (mm 2), .ref (mm 3), .ref (mm 4), .ref (mm 5), .int i_1, .int 0, .int 0, .int 0, .int 0, .int 0, .int 0, .int 0, .int 0, .int (-1), .int 0, .ref (mm 6), .int 0, .ref (mm 7), .ref (mm 8), .ref (mm 9), .int 0, .ref (mm 10), .ref (mm 11), .int 0, .int 0, .ref (mm 12), .ref (mm 13), .int 0, .ref (mm 14), .ref (mm 15), .ref (mm 16)])), ((mm 4), .inl (k 0, 900, .inl f_2))] := hD
  have hl : lv_has ls 8 [(6, .int i_1), (0, .ref (mm 0)), (1, .int a), (2, .int x), (3, .int z), (4, .int g), (5, .int h)] := hl
  refine lv_iload hx hb dX8_feed_24 (lv_at hl 0 rfl) ?_
  refine lv_bipush (v := 20) hx hb dX8_feed_26 (by decide) ?_
  refine lv_icmp_ge (tgt := 121) hx hb dX8_feed_28 (by decide) (fun c_4 => ?_) (fun c_4 => ?_)
  · have c_4 : 20 ≤ i_1.toInt := ti_le c_4
    have qc_4 : i_1 = 20 := ti_of (show i_1.toInt = 20 from by omega)
    refine lv_aload_n hx hb dX8_feed_121 rfl (lv_at hl 1 rfl) ?_
    refine va_get (D := D) (ci := 7) (v := .int i_1) (C := RX8) (T := TX8) (N := 33) hx hb hts inlX8 hown hK hP 0 rfl rfl 6 (by decide) (hts _ mw_126) (fun _ h9 => h9) rfl dX8_feed_122 ?_
    refine lv_ni (v := 20) (qc_4) ?_
    have hP9 := hP.sub (ws' := []) [] rfl
    have hD9 := hD.sub (ws' := []) [] (by decide) rfl
    exact W.iret (v := 20) hx hb hr (fun t ht hW => ⟨⟨20, (), rfl, rfl, by rw [ht]; exact hP9, hD9⟩, hS.F ht⟩) hS.2.2 dX8_feed_125
  · have c_4 : i_1.toInt < 20 := ti_nle c_4
    refine lv_iload hx hb dX8_feed_31 (lv_at hl 0 rfl) ?_
    refine lv_iconst (v := 4) hx hb dX8_feed_33 (by decide) ?_
    refine lv_icmp_ge (tgt := 41) hx hb dX8_feed_34 (by decide) (fun c_5 => ?_) (fun c_5 => ?_)
    · have c_5 : 4 ≤ i_1.toInt := ti_le c_5
      refine lv_iload hx hb dX8_feed_41 (lv_at hl 0 rfl) ?_
      refine lv_bipush (v := 8) hx hb dX8_feed_43 (by decide) ?_
      refine lv_icmp_ge (tgt := 52) hx hb dX8_feed_45 (by decide) (fun c_6 => ?_) (fun c_6 => ?_)
      · have c_6 : 8 ≤ i_1.toInt := ti_le c_6
        refine lv_iload hx hb dX8_feed_52 (lv_at hl 0 rfl) ?_
        refine lv_bipush (v := 12) hx hb dX8_feed_54 (by decide) ?_
        refine lv_icmp_ge (tgt := 63) hx hb dX8_feed_56 (by decide) (fun c_7 => ?_) (fun c_7 => ?_)
        · have c_7 : 12 ≤ i_1.toInt := ti_le c_7
          refine lv_iload hx hb dX8_feed_63 (lv_at hl 0 rfl) ?_
          refine lv_bipush (v := 16) hx hb dX8_feed_65 (by decide) ?_
          refine lv_icmp_ge (tgt := 75) hx hb dX8_feed_67 (by decide) (fun c_8 => ?_) (fun c_8 => ?_)
          · have c_8 : 16 ≤ i_1.toInt := ti_le c_8
            refine lv_iload hx hb dX8_feed_75 (lv_at hl 6 rfl) ?_
            refine lv_istore (lv' := [(7, .int h), (6, .int i_1), (0, .ref (mm 0)), (1, .int a), (2, .int x), (3, .int z), (4, .int g), (5, .int h)]) hx hb dX8_feed_77 hl (by decide) rfl (fun ls hl => ?_)
            refine lv_aload_n hx hb dX8_feed_79 rfl (lv_at hl 2 rfl) ?_
            refine va_get (D := D) (ci := 7) (v := .ref (mm 4)) (C := RX8) (T := TX8) (N := 33) hx hb hts inlX8 hown hK hP 0 rfl rfl 4 (by decide) (hts _ mw_94) (fun _ h9 => h9) rfl dX8_feed_80 ?_
            refine lv_aload_n hx hb dX8_feed_83 rfl (lv_at hl 2 rfl) ?_
            refine va_get (D := D) (ci := 7) (v := .int i_1) (C := RX8) (T := TX8) (N := 33) hx hb hts inlX8 hown hK hP 0 rfl rfl 6 (by decide) (hts _ mw_126) (fun _ h9 => h9) rfl dX8_feed_84 ?_
            refine lv_iload hx hb dX8_feed_87 (lv_at hl 0 rfl) ?_
            refine lv_bipush (v := 24) hx hb dX8_feed_89 (by decide) ?_
            refine lv_bipush (v := 8) hx hb dX8_feed_91 (by decide) ?_
            refine lv_iload hx hb dX8_feed_93 (lv_at hl 1 rfl) ?_
            refine lv_iconst (v := 4) hx hb dX8_feed_95 (by decide) ?_
            refine lv_irem hx hb dX8_feed_96 (by decide) ?_
            refine lv_topi (fun z_9 ez_9 => ?_)
            refine lv_imul hx hb dX8_feed_97 ?_
            refine lv_topi (fun z_10 ez_10 => ?_)
            refine lv_isub hx hb dX8_feed_98 ?_
            refine lv_topi (fun z_11 ez_11 => ?_)
            refine lv_ishr hx hb dX8_feed_99 ?_
            refine lv_topi (fun z_12 ez_12 => ?_)
            refine lv_sipush (v := 255) hx hb dX8_feed_100 (by decide) ?_
            refine lv_iand hx hb dX8_feed_103 ?_
            refine lv_topi (fun z_13 ez_13 => ?_)
            refine va_iast hx hb hK hP hD hS 1 0 rfl rfl (vp_in_o (by omega) (by omega)) dX8_feed_104 (fun H locs hP hD hS => ?_)
            have hP : va_P D vwCl [((mm 0), .inr (7, [.int 0, .ref (mm 1), .ref (mm 2), .ref (mm 3), .ref (mm 4), .ref (mm 5), .int i_1, .int 0, .int 0, .int 0, .int 0, .int 0, .int 0, .int 0, .int 0, .int (-1), .int 0, .ref (mm 6), .int 0, .ref (mm 7), .ref (mm 8), .ref (mm 9), .int 0, .ref (mm 10), .ref (mm 11), .int 0, .int 0, .ref (mm 12), .ref (mm 13), .int 0, .ref (mm 14), .ref (mm 15), .ref (mm 16)])), ((mm 4), .inl (k 0, 900, .inl (upd f_2 i_1.toNatClampNeg z_13)))] H := hP
            have hD : va_D A [((mm 0), .inr (7, [.int 0, .ref (mm 1), .ref (mm 2), .ref (mm 3), .ref (mm 4), .ref (mm 5), .int i_1, .int 0, .int 0, .int 0, .int 0, .int 0, .int 0, .int 0, .int 0, .int (-1), .int 0, .ref (mm 6), .int 0, .ref (mm 7), .ref (mm 8), .ref (mm 9), .int 0, .ref (mm 10), .ref (mm 11), .int 0, .int 0, .ref (mm 12), .ref (mm 13), .int 0, .ref (mm 14), .ref (mm 15), .ref (mm 16)])), ((mm 4), .inl (k 0, 900, .inl (upd f_2 i_1.toNatClampNeg z_13)))] := hD
            generalize ef_14 : (upd f_2 i_1.toNatClampNeg z_13) = f_14 at hP hD
            refine lv_aload_n hx hb dX8_feed_105 rfl (lv_at hl 2 rfl) ?_
            refine lv_dup hx hb dX8_feed_106 rfl ?_
            refine va_get (D := D) (ci := 7) (v := .int i_1) (C := RX8) (T := TX8) (N := 33) hx hb hts inlX8 hown hK hP 0 rfl rfl 6 (by decide) (hts _ mw_126) (fun _ h9 => h9) rfl dX8_feed_107 ?_
            refine lv_iconst (v := 1) hx hb dX8_feed_110 (by decide) ?_
            refine lv_iadd hx hb dX8_feed_111 ?_
            refine lv_topi (fun z_15 ez_15 => ?_)
            have tz_15 : z_15.toInt = i_1.toInt + 1 := by rw [ez_15]; exact ti_addc (by decide) (by omega) (by omega)
            refine va_put (D := D) (ci := 7) (v := .int z_15) (ty := .int) (C := RX8) (T := TX8) (N := 33) hx hb hts inlX8 tyX8 tyX8_ok nmX8 hown hK hP hD hS 0 rfl rfl 6 (by decide) (hts _ mw_126) (fun _ h9 => h9) rfl (by decide +kernel) rfl rfl (Nat.le_of_ble_eq_true rfl) dX8_feed_112 (fun H locs hP hD hS => ?_)
            have hP : va_P D vwCl [((mm 0), .inr (7, [.int 0, .ref (mm 1), .ref (mm 2), .ref (mm 3), .ref (mm 4), .ref (mm 5), .int z_15, .int 0, .int 0, .int 0, .int 0, .int 0, .int 0, .int 0, .int 0, .int (-1), .int 0, .ref (mm 6), .int 0, .ref (mm 7), .ref (mm 8), .ref (mm 9), .int 0, .ref (mm 10), .ref (mm 11), .int 0, .int 0, .ref (mm 12), .ref (mm 13), .int 0, .ref (mm 14), .ref (mm 15), .ref (mm 16)])), ((mm 4), .inl (k 0, 900, .inl f_14))] H := hP
            have hD : va_D A [((mm 0), .inr (7, [.int 0, .ref (mm 1), .ref (mm 2), .ref (mm 3), .ref (mm 4), .ref (mm 5), .int z_15, .int 0, .int 0, .int 0, .int 0, .int 0, .int 0, .int 0, .int 0, .int (-1), .int 0, .ref (mm 6), .int 0, .ref (mm 7), .ref (mm 8), .ref (mm 9), .int 0, .ref (mm 10), .ref (mm 11), .int 0, .int 0, .ref (mm 12), .ref (mm 13), .int 0, .ref (mm 14), .ref (mm 15), .ref (mm 16)])), ((mm 4), .inl (k 0, 900, .inl f_14))] := hD
            obtain ⟨z_16, ez_16⟩ : ∃ y : Int32, y = i_1 + 1 := ⟨_, rfl⟩
            have tz_16 : z_16.toInt = i_1.toInt + 1 := by rw [ez_16]; exact ti_addc (by decide) (by omega) (by omega)
            refine lv_iinc (v := z_16) (lv' := [(6, .int z_16), (7, .int h), (0, .ref (mm 0)), (1, .int a), (2, .int x), (3, .int z), (4, .int g), (5, .int h)]) hx hb dX8_feed_115 hl (k := 1) rfl (ez_16.symm) (by decide) rfl (fun ls hl => ?_)
            refine lv_goto (tgt := 24) hx hb dX8_feed_118 (by decide) ?_
            obtain rfl : z_16 = z_15 := ti_of (by omega)
            have hP : va_P D vwCl [((mm 0), .inr (7, [.int 0, .ref (mm 1), .ref (mm 2), .ref (mm 3), .ref (mm 4), .ref (mm 5), .int z_16, .int 0, .int 0, .int 0, .int 0, .int 0, .int 0, .int 0, .int 0, .int (-1), .int 0, .ref (mm 6), .int 0, .ref (mm 7), .ref (mm 8), .ref (mm 9), .int 0, .ref (mm 10), .ref (mm 11), .int 0, .int 0, .ref (mm 12), .ref (mm 13), .int 0, .ref (mm 14), .ref (mm 15), .ref (mm 16)])), ((mm 4), .inl (k 0, 900, .inl f_14))] H := hP
            have hD : va_D A [((mm 0), .inr (7, [.int 0, .ref (mm 1), .ref (mm 2), .ref (mm 3), .ref (mm 4), .ref (mm 5), .int z_16, .int 0, .int 0, .int 0, .int 0, .int 0, .int 0, .int 0, .int 0, .int (-1), .int 0, .ref (mm 6), .int 0, .ref (mm 7), .ref (mm 8), .ref (mm 9), .int 0, .ref (mm 10), .ref (mm 11), .int 0, .int 0, .ref (mm 12), .ref (mm 13), .int 0, .ref (mm 14), .ref (mm 15), .ref (mm 16)])), ((mm 4), .inl (k 0, 900, .inl f_14))] := hD
            exact ih (z_16, f_14) _ _ ls (by show (20 - z_16.toInt).toNat < (20 - i_1.toInt).toNat; omega) ⟨(show 0 ≤ z_16.toInt ∧ z_16.toInt ≤ 20 from ⟨by omega, by omega⟩), hP.sub [0, 1] rfl, hD.sub [0, 1] (by decide) rfl, hS, lv_sub hl [0, 2, 3, 4, 5, 6, 7] rfl⟩
          · have c_8 : i_1.toInt < 16 := ti_nle c_8
            refine lv_iload hx hb dX8_feed_70 (lv_at hl 5 rfl) ?_
            refine lv_goto (tgt := 77) hx hb dX8_feed_72 (by decide) ?_
            refine lv_istore (lv' := [(7, .int g), (6, .int i_1), (0, .ref (mm 0)), (1, .int a), (2, .int x), (3, .int z), (4, .int g), (5, .int h)]) hx hb dX8_feed_77 hl (by decide) rfl (fun ls hl => ?_)
            refine lv_aload_n hx hb dX8_feed_79 rfl (lv_at hl 2 rfl) ?_
            refine va_get (D := D) (ci := 7) (v := .ref (mm 4)) (C := RX8) (T := TX8) (N := 33) hx hb hts inlX8 hown hK hP 0 rfl rfl 4 (by decide) (hts _ mw_94) (fun _ h9 => h9) rfl dX8_feed_80 ?_
            refine lv_aload_n hx hb dX8_feed_83 rfl (lv_at hl 2 rfl) ?_
            refine va_get (D := D) (ci := 7) (v := .int i_1) (C := RX8) (T := TX8) (N := 33) hx hb hts inlX8 hown hK hP 0 rfl rfl 6 (by decide) (hts _ mw_126) (fun _ h9 => h9) rfl dX8_feed_84 ?_
            refine lv_iload hx hb dX8_feed_87 (lv_at hl 0 rfl) ?_
            refine lv_bipush (v := 24) hx hb dX8_feed_89 (by decide) ?_
            refine lv_bipush (v := 8) hx hb dX8_feed_91 (by decide) ?_
            refine lv_iload hx hb dX8_feed_93 (lv_at hl 1 rfl) ?_
            refine lv_iconst (v := 4) hx hb dX8_feed_95 (by decide) ?_
            refine lv_irem hx hb dX8_feed_96 (by decide) ?_
            refine lv_topi (fun z_17 ez_17 => ?_)
            refine lv_imul hx hb dX8_feed_97 ?_
            refine lv_topi (fun z_18 ez_18 => ?_)
            refine lv_isub hx hb dX8_feed_98 ?_
            refine lv_topi (fun z_19 ez_19 => ?_)
            refine lv_ishr hx hb dX8_feed_99 ?_
            refine lv_topi (fun z_20 ez_20 => ?_)
            refine lv_sipush (v := 255) hx hb dX8_feed_100 (by decide) ?_
            refine lv_iand hx hb dX8_feed_103 ?_
            refine lv_topi (fun z_21 ez_21 => ?_)
            refine va_iast hx hb hK hP hD hS 1 0 rfl rfl (vp_in_o (by omega) (by omega)) dX8_feed_104 (fun H locs hP hD hS => ?_)
            have hP : va_P D vwCl [((mm 0), .inr (7, [.int 0, .ref (mm 1), .ref (mm 2), .ref (mm 3), .ref (mm 4), .ref (mm 5), .int i_1, .int 0, .int 0, .int 0, .int 0, .int 0, .int 0, .int 0, .int 0, .int (-1), .int 0, .ref (mm 6), .int 0, .ref (mm 7), .ref (mm 8), .ref (mm 9), .int 0, .ref (mm 10), .ref (mm 11), .int 0, .int 0, .ref (mm 12), .ref (mm 13), .int 0, .ref (mm 14), .ref (mm 15), .ref (mm 16)])), ((mm 4), .inl (k 0, 900, .inl (upd f_2 i_1.toNatClampNeg z_21)))] H := hP
            have hD : va_D A [((mm 0), .inr (7, [.int 0, .ref (mm 1), .ref (mm 2), .ref (mm 3), .ref (mm 4), .ref (mm 5), .int i_1, .int 0, .int 0, .int 0, .int 0, .int 0, .int 0, .int 0, .int 0, .int (-1), .int 0, .ref (mm 6), .int 0, .ref (mm 7), .ref (mm 8), .ref (mm 9), .int 0, .ref (mm 10), .ref (mm 11), .int 0, .int 0, .ref (mm 12), .ref (mm 13), .int 0, .ref (mm 14), .ref (mm 15), .ref (mm 16)])), ((mm 4), .inl (k 0, 900, .inl (upd f_2 i_1.toNatClampNeg z_21)))] := hD
            generalize ef_22 : (upd f_2 i_1.toNatClampNeg z_21) = f_22 at hP hD
            refine lv_aload_n hx hb dX8_feed_105 rfl (lv_at hl 2 rfl) ?_
            refine lv_dup hx hb dX8_feed_106 rfl ?_
            refine va_get (D := D) (ci := 7) (v := .int i_1) (C := RX8) (T := TX8) (N := 33) hx hb hts inlX8 hown hK hP 0 rfl rfl 6 (by decide) (hts _ mw_126) (fun _ h9 => h9) rfl dX8_feed_107 ?_
            refine lv_iconst (v := 1) hx hb dX8_feed_110 (by decide) ?_
            refine lv_iadd hx hb dX8_feed_111 ?_
            refine lv_topi (fun z_23 ez_23 => ?_)
            have tz_23 : z_23.toInt = i_1.toInt + 1 := by rw [ez_23]; exact ti_addc (by decide) (by omega) (by omega)
            refine va_put (D := D) (ci := 7) (v := .int z_23) (ty := .int) (C := RX8) (T := TX8) (N := 33) hx hb hts inlX8 tyX8 tyX8_ok nmX8 hown hK hP hD hS 0 rfl rfl 6 (by decide) (hts _ mw_126) (fun _ h9 => h9) rfl (by decide +kernel) rfl rfl (Nat.le_of_ble_eq_true rfl) dX8_feed_112 (fun H locs hP hD hS => ?_)
            have hP : va_P D vwCl [((mm 0), .inr (7, [.int 0, .ref (mm 1), .ref (mm 2), .ref (mm 3), .ref (mm 4), .ref (mm 5), .int z_23, .int 0, .int 0, .int 0, .int 0, .int 0, .int 0, .int 0, .int 0, .int (-1), .int 0, .ref (mm 6), .int 0, .ref (mm 7), .ref (mm 8), .ref (mm 9), .int 0, .ref (mm 10), .ref (mm 11), .int 0, .int 0, .ref (mm 12), .ref (mm 13), .int 0, .ref (mm 14), .ref (mm 15), .ref (mm 16)])), ((mm 4), .inl (k 0, 900, .inl f_22))] H := hP
            have hD : va_D A [((mm 0), .inr (7, [.int 0, .ref (mm 1), .ref (mm 2), .ref (mm 3), .ref (mm 4), .ref (mm 5), .int z_23, .int 0, .int 0, .int 0, .int 0, .int 0, .int 0, .int 0, .int 0, .int (-1), .int 0, .ref (mm 6), .int 0, .ref (mm 7), .ref (mm 8), .ref (mm 9), .int 0, .ref (mm 10), .ref (mm 11), .int 0, .int 0, .ref (mm 12), .ref (mm 13), .int 0, .ref (mm 14), .ref (mm 15), .ref (mm 16)])), ((mm 4), .inl (k 0, 900, .inl f_22))] := hD
            obtain ⟨z_24, ez_24⟩ : ∃ y : Int32, y = i_1 + 1 := ⟨_, rfl⟩
            have tz_24 : z_24.toInt = i_1.toInt + 1 := by rw [ez_24]; exact ti_addc (by decide) (by omega) (by omega)
            refine lv_iinc (v := z_24) (lv' := [(6, .int z_24), (7, .int g), (0, .ref (mm 0)), (1, .int a), (2, .int x), (3, .int z), (4, .int g), (5, .int h)]) hx hb dX8_feed_115 hl (k := 1) rfl (ez_24.symm) (by decide) rfl (fun ls hl => ?_)
            refine lv_goto (tgt := 24) hx hb dX8_feed_118 (by decide) ?_
            obtain rfl : z_24 = z_23 := ti_of (by omega)
            have hP : va_P D vwCl [((mm 0), .inr (7, [.int 0, .ref (mm 1), .ref (mm 2), .ref (mm 3), .ref (mm 4), .ref (mm 5), .int z_24, .int 0, .int 0, .int 0, .int 0, .int 0, .int 0, .int 0, .int 0, .int (-1), .int 0, .ref (mm 6), .int 0, .ref (mm 7), .ref (mm 8), .ref (mm 9), .int 0, .ref (mm 10), .ref (mm 11), .int 0, .int 0, .ref (mm 12), .ref (mm 13), .int 0, .ref (mm 14), .ref (mm 15), .ref (mm 16)])), ((mm 4), .inl (k 0, 900, .inl f_22))] H := hP
            have hD : va_D A [((mm 0), .inr (7, [.int 0, .ref (mm 1), .ref (mm 2), .ref (mm 3), .ref (mm 4), .ref (mm 5), .int z_24, .int 0, .int 0, .int 0, .int 0, .int 0, .int 0, .int 0, .int 0, .int (-1), .int 0, .ref (mm 6), .int 0, .ref (mm 7), .ref (mm 8), .ref (mm 9), .int 0, .ref (mm 10), .ref (mm 11), .int 0, .int 0, .ref (mm 12), .ref (mm 13), .int 0, .ref (mm 14), .ref (mm 15), .ref (mm 16)])), ((mm 4), .inl (k 0, 900, .inl f_22))] := hD
            exact ih (z_24, f_22) _ _ ls (by show (20 - z_24.toInt).toNat < (20 - i_1.toInt).toNat; omega) ⟨(show 0 ≤ z_24.toInt ∧ z_24.toInt ≤ 20 from ⟨by omega, by omega⟩), hP.sub [0, 1] rfl, hD.sub [0, 1] (by decide) rfl, hS, lv_sub hl [0, 2, 3, 4, 5, 6, 7] rfl⟩
        · have c_7 : i_1.toInt < 12 := ti_nle c_7
          refine lv_iload_n hx hb dX8_feed_59 rfl (lv_at hl 4 rfl) ?_
          refine lv_goto (tgt := 77) hx hb dX8_feed_60 (by decide) ?_
          refine lv_istore (lv' := [(7, .int z), (6, .int i_1), (0, .ref (mm 0)), (1, .int a), (2, .int x), (3, .int z), (4, .int g), (5, .int h)]) hx hb dX8_feed_77 hl (by decide) rfl (fun ls hl => ?_)
          refine lv_aload_n hx hb dX8_feed_79 rfl (lv_at hl 2 rfl) ?_
          refine va_get (D := D) (ci := 7) (v := .ref (mm 4)) (C := RX8) (T := TX8) (N := 33) hx hb hts inlX8 hown hK hP 0 rfl rfl 4 (by decide) (hts _ mw_94) (fun _ h9 => h9) rfl dX8_feed_80 ?_
          refine lv_aload_n hx hb dX8_feed_83 rfl (lv_at hl 2 rfl) ?_
          refine va_get (D := D) (ci := 7) (v := .int i_1) (C := RX8) (T := TX8) (N := 33) hx hb hts inlX8 hown hK hP 0 rfl rfl 6 (by decide) (hts _ mw_126) (fun _ h9 => h9) rfl dX8_feed_84 ?_
          refine lv_iload hx hb dX8_feed_87 (lv_at hl 0 rfl) ?_
          refine lv_bipush (v := 24) hx hb dX8_feed_89 (by decide) ?_
          refine lv_bipush (v := 8) hx hb dX8_feed_91 (by decide) ?_
          refine lv_iload hx hb dX8_feed_93 (lv_at hl 1 rfl) ?_
          refine lv_iconst (v := 4) hx hb dX8_feed_95 (by decide) ?_
          refine lv_irem hx hb dX8_feed_96 (by decide) ?_
          refine lv_topi (fun z_25 ez_25 => ?_)
          refine lv_imul hx hb dX8_feed_97 ?_
          refine lv_topi (fun z_26 ez_26 => ?_)
          refine lv_isub hx hb dX8_feed_98 ?_
          refine lv_topi (fun z_27 ez_27 => ?_)
          refine lv_ishr hx hb dX8_feed_99 ?_
          refine lv_topi (fun z_28 ez_28 => ?_)
          refine lv_sipush (v := 255) hx hb dX8_feed_100 (by decide) ?_
          refine lv_iand hx hb dX8_feed_103 ?_
          refine lv_topi (fun z_29 ez_29 => ?_)
          refine va_iast hx hb hK hP hD hS 1 0 rfl rfl (vp_in_o (by omega) (by omega)) dX8_feed_104 (fun H locs hP hD hS => ?_)
          have hP : va_P D vwCl [((mm 0), .inr (7, [.int 0, .ref (mm 1), .ref (mm 2), .ref (mm 3), .ref (mm 4), .ref (mm 5), .int i_1, .int 0, .int 0, .int 0, .int 0, .int 0, .int 0, .int 0, .int 0, .int (-1), .int 0, .ref (mm 6), .int 0, .ref (mm 7), .ref (mm 8), .ref (mm 9), .int 0, .ref (mm 10), .ref (mm 11), .int 0, .int 0, .ref (mm 12), .ref (mm 13), .int 0, .ref (mm 14), .ref (mm 15), .ref (mm 16)])), ((mm 4), .inl (k 0, 900, .inl (upd f_2 i_1.toNatClampNeg z_29)))] H := hP
          have hD : va_D A [((mm 0), .inr (7, [.int 0, .ref (mm 1), .ref (mm 2), .ref (mm 3), .ref (mm 4), .ref (mm 5), .int i_1, .int 0, .int 0, .int 0, .int 0, .int 0, .int 0, .int 0, .int 0, .int (-1), .int 0, .ref (mm 6), .int 0, .ref (mm 7), .ref (mm 8), .ref (mm 9), .int 0, .ref (mm 10), .ref (mm 11), .int 0, .int 0, .ref (mm 12), .ref (mm 13), .int 0, .ref (mm 14), .ref (mm 15), .ref (mm 16)])), ((mm 4), .inl (k 0, 900, .inl (upd f_2 i_1.toNatClampNeg z_29)))] := hD
          generalize ef_30 : (upd f_2 i_1.toNatClampNeg z_29) = f_30 at hP hD
          refine lv_aload_n hx hb dX8_feed_105 rfl (lv_at hl 2 rfl) ?_
          refine lv_dup hx hb dX8_feed_106 rfl ?_
          refine va_get (D := D) (ci := 7) (v := .int i_1) (C := RX8) (T := TX8) (N := 33) hx hb hts inlX8 hown hK hP 0 rfl rfl 6 (by decide) (hts _ mw_126) (fun _ h9 => h9) rfl dX8_feed_107 ?_
          refine lv_iconst (v := 1) hx hb dX8_feed_110 (by decide) ?_
          refine lv_iadd hx hb dX8_feed_111 ?_
          refine lv_topi (fun z_31 ez_31 => ?_)
          have tz_31 : z_31.toInt = i_1.toInt + 1 := by rw [ez_31]; exact ti_addc (by decide) (by omega) (by omega)
          refine va_put (D := D) (ci := 7) (v := .int z_31) (ty := .int) (C := RX8) (T := TX8) (N := 33) hx hb hts inlX8 tyX8 tyX8_ok nmX8 hown hK hP hD hS 0 rfl rfl 6 (by decide) (hts _ mw_126) (fun _ h9 => h9) rfl (by decide +kernel) rfl rfl (Nat.le_of_ble_eq_true rfl) dX8_feed_112 (fun H locs hP hD hS => ?_)
          have hP : va_P D vwCl [((mm 0), .inr (7, [.int 0, .ref (mm 1), .ref (mm 2), .ref (mm 3), .ref (mm 4), .ref (mm 5), .int z_31, .int 0, .int 0, .int 0, .int 0, .int 0, .int 0, .int 0, .int 0, .int (-1), .int 0, .ref (mm 6), .int 0, .ref (mm 7), .ref (mm 8), .ref (mm 9), .int 0, .ref (mm 10), .ref (mm 11), .int 0, .int 0, .ref (mm 12), .ref (mm 13), .int 0, .ref (mm 14), .ref (mm 15), .ref (mm 16)])), ((mm 4), .inl (k 0, 900, .inl f_30))] H := hP
          have hD : va_D A [((mm 0), .inr (7, [.int 0, .ref (mm 1), .ref (mm 2), .ref (mm 3), .ref (mm 4), .ref (mm 5), .int z_31, .int 0, .int 0, .int 0, .int 0, .int 0, .int 0, .int 0, .int 0, .int (-1), .int 0, .ref (mm 6), .int 0, .ref (mm 7), .ref (mm 8), .ref (mm 9), .int 0, .ref (mm 10), .ref (mm 11), .int 0, .int 0, .ref (mm 12), .ref (mm 13), .int 0, .ref (mm 14), .ref (mm 15), .ref (mm 16)])), ((mm 4), .inl (k 0, 900, .inl f_30))] := hD
          obtain ⟨z_32, ez_32⟩ : ∃ y : Int32, y = i_1 + 1 := ⟨_, rfl⟩
          have tz_32 : z_32.toInt = i_1.toInt + 1 := by rw [ez_32]; exact ti_addc (by decide) (by omega) (by omega)
          refine lv_iinc (v := z_32) (lv' := [(6, .int z_32), (7, .int z), (0, .ref (mm 0)), (1, .int a), (2, .int x), (3, .int z), (4, .int g), (5, .int h)]) hx hb dX8_feed_115 hl (k := 1) rfl (ez_32.symm) (by decide) rfl (fun ls hl => ?_)
          refine lv_goto (tgt := 24) hx hb dX8_feed_118 (by decide) ?_
          obtain rfl : z_32 = z_31 := ti_of (by omega)
          have hP : va_P D vwCl [((mm 0), .inr (7, [.int 0, .ref (mm 1), .ref (mm 2), .ref (mm 3), .ref (mm 4), .ref (mm 5), .int z_32, .int 0, .int 0, .int 0, .int 0, .int 0, .int 0, .int 0, .int 0, .int (-1), .int 0, .ref (mm 6), .int 0, .ref (mm 7), .ref (mm 8), .ref (mm 9), .int 0, .ref (mm 10), .ref (mm 11), .int 0, .int 0, .ref (mm 12), .ref (mm 13), .int 0, .ref (mm 14), .ref (mm 15), .ref (mm 16)])), ((mm 4), .inl (k 0, 900, .inl f_30))] H := hP
          have hD : va_D A [((mm 0), .inr (7, [.int 0, .ref (mm 1), .ref (mm 2), .ref (mm 3), .ref (mm 4), .ref (mm 5), .int z_32, .int 0, .int 0, .int 0, .int 0, .int 0, .int 0, .int 0, .int 0, .int (-1), .int 0, .ref (mm 6), .int 0, .ref (mm 7), .ref (mm 8), .ref (mm 9), .int 0, .ref (mm 10), .ref (mm 11), .int 0, .int 0, .ref (mm 12), .ref (mm 13), .int 0, .ref (mm 14), .ref (mm 15), .ref (mm 16)])), ((mm 4), .inl (k 0, 900, .inl f_30))] := hD
          exact ih (z_32, f_30) _ _ ls (by show (20 - z_32.toInt).toNat < (20 - i_1.toInt).toNat; omega) ⟨(show 0 ≤ z_32.toInt ∧ z_32.toInt ≤ 20 from ⟨by omega, by omega⟩), hP.sub [0, 1] rfl, hD.sub [0, 1] (by decide) rfl, hS, lv_sub hl [0, 2, 3, 4, 5, 6, 7] rfl⟩
      · have c_6 : i_1.toInt < 8 := ti_nle c_6
        refine lv_iload_n hx hb dX8_feed_48 rfl (lv_at hl 3 rfl) ?_
        refine lv_goto (tgt := 77) hx hb dX8_feed_49 (by decide) ?_
        refine lv_istore (lv' := [(7, .int x), (6, .int i_1), (0, .ref (mm 0)), (1, .int a), (2, .int x), (3, .int z), (4, .int g), (5, .int h)]) hx hb dX8_feed_77 hl (by decide) rfl (fun ls hl => ?_)
        refine lv_aload_n hx hb dX8_feed_79 rfl (lv_at hl 2 rfl) ?_
        refine va_get (D := D) (ci := 7) (v := .ref (mm 4)) (C := RX8) (T := TX8) (N := 33) hx hb hts inlX8 hown hK hP 0 rfl rfl 4 (by decide) (hts _ mw_94) (fun _ h9 => h9) rfl dX8_feed_80 ?_
        refine lv_aload_n hx hb dX8_feed_83 rfl (lv_at hl 2 rfl) ?_
        refine va_get (D := D) (ci := 7) (v := .int i_1) (C := RX8) (T := TX8) (N := 33) hx hb hts inlX8 hown hK hP 0 rfl rfl 6 (by decide) (hts _ mw_126) (fun _ h9 => h9) rfl dX8_feed_84 ?_
        refine lv_iload hx hb dX8_feed_87 (lv_at hl 0 rfl) ?_
        refine lv_bipush (v := 24) hx hb dX8_feed_89 (by decide) ?_
        refine lv_bipush (v := 8) hx hb dX8_feed_91 (by decide) ?_
        refine lv_iload hx hb dX8_feed_93 (lv_at hl 1 rfl) ?_
        refine lv_iconst (v := 4) hx hb dX8_feed_95 (by decide) ?_
        refine lv_irem hx hb dX8_feed_96 (by decide) ?_
        refine lv_topi (fun z_33 ez_33 => ?_)
        refine lv_imul hx hb dX8_feed_97 ?_
        refine lv_topi (fun z_34 ez_34 => ?_)
        refine lv_isub hx hb dX8_feed_98 ?_
        refine lv_topi (fun z_35 ez_35 => ?_)
        refine lv_ishr hx hb dX8_feed_99 ?_
        refine lv_topi (fun z_36 ez_36 => ?_)
        refine lv_sipush (v := 255) hx hb dX8_feed_100 (by decide) ?_
        refine lv_iand hx hb dX8_feed_103 ?_
        refine lv_topi (fun z_37 ez_37 => ?_)
        refine va_iast hx hb hK hP hD hS 1 0 rfl rfl (vp_in_o (by omega) (by omega)) dX8_feed_104 (fun H locs hP hD hS => ?_)
        have hP : va_P D vwCl [((mm 0), .inr (7, [.int 0, .ref (mm 1), .ref (mm 2), .ref (mm 3), .ref (mm 4), .ref (mm 5), .int i_1, .int 0, .int 0, .int 0, .int 0, .int 0, .int 0, .int 0, .int 0, .int (-1), .int 0, .ref (mm 6), .int 0, .ref (mm 7), .ref (mm 8), .ref (mm 9), .int 0, .ref (mm 10), .ref (mm 11), .int 0, .int 0, .ref (mm 12), .ref (mm 13), .int 0, .ref (mm 14), .ref (mm 15), .ref (mm 16)])), ((mm 4), .inl (k 0, 900, .inl (upd f_2 i_1.toNatClampNeg z_37)))] H := hP
        have hD : va_D A [((mm 0), .inr (7, [.int 0, .ref (mm 1), .ref (mm 2), .ref (mm 3), .ref (mm 4), .ref (mm 5), .int i_1, .int 0, .int 0, .int 0, .int 0, .int 0, .int 0, .int 0, .int 0, .int (-1), .int 0, .ref (mm 6), .int 0, .ref (mm 7), .ref (mm 8), .ref (mm 9), .int 0, .ref (mm 10), .ref (mm 11), .int 0, .int 0, .ref (mm 12), .ref (mm 13), .int 0, .ref (mm 14), .ref (mm 15), .ref (mm 16)])), ((mm 4), .inl (k 0, 900, .inl (upd f_2 i_1.toNatClampNeg z_37)))] := hD
        generalize ef_38 : (upd f_2 i_1.toNatClampNeg z_37) = f_38 at hP hD
        refine lv_aload_n hx hb dX8_feed_105 rfl (lv_at hl 2 rfl) ?_
        refine lv_dup hx hb dX8_feed_106 rfl ?_
        refine va_get (D := D) (ci := 7) (v := .int i_1) (C := RX8) (T := TX8) (N := 33) hx hb hts inlX8 hown hK hP 0 rfl rfl 6 (by decide) (hts _ mw_126) (fun _ h9 => h9) rfl dX8_feed_107 ?_
        refine lv_iconst (v := 1) hx hb dX8_feed_110 (by decide) ?_
        refine lv_iadd hx hb dX8_feed_111 ?_
        refine lv_topi (fun z_39 ez_39 => ?_)
        have tz_39 : z_39.toInt = i_1.toInt + 1 := by rw [ez_39]; exact ti_addc (by decide) (by omega) (by omega)
        refine va_put (D := D) (ci := 7) (v := .int z_39) (ty := .int) (C := RX8) (T := TX8) (N := 33) hx hb hts inlX8 tyX8 tyX8_ok nmX8 hown hK hP hD hS 0 rfl rfl 6 (by decide) (hts _ mw_126) (fun _ h9 => h9) rfl (by decide +kernel) rfl rfl (Nat.le_of_ble_eq_true rfl) dX8_feed_112 (fun H locs hP hD hS => ?_)
        have hP : va_P D vwCl [((mm 0), .inr (7, [.int 0, .ref (mm 1), .ref (mm 2), .ref (mm 3), .ref (mm 4), .ref (mm 5), .int z_39, .int 0, .int 0, .int 0, .int 0, .int 0, .int 0, .int 0, .int 0, .int (-1), .int 0, .ref (mm 6), .int 0, .ref (mm 7), .ref (mm 8), .ref (mm 9), .int 0, .ref (mm 10), .ref (mm 11), .int 0, .int 0, .ref (mm 12), .ref (mm 13), .int 0, .ref (mm 14), .ref (mm 15), .ref (mm 16)])), ((mm 4), .inl (k 0, 900, .inl f_38))] H := hP
        have hD : va_D A [((mm 0), .inr (7, [.int 0, .ref (mm 1), .ref (mm 2), .ref (mm 3), .ref (mm 4), .ref (mm 5), .int z_39, .int 0, .int 0, .int 0, .int 0, .int 0, .int 0, .int 0, .int 0, .int (-1), .int 0, .ref (mm 6), .int 0, .ref (mm 7), .ref (mm 8), .ref (mm 9), .int 0, .ref (mm 10), .ref (mm 11), .int 0, .int 0, .ref (mm 12), .ref (mm 13), .int 0, .ref (mm 14), .ref (mm 15), .ref (mm 16)])), ((mm 4), .inl (k 0, 900, .inl f_38))] := hD
        obtain ⟨z_40, ez_40⟩ : ∃ y : Int32, y = i_1 + 1 := ⟨_, rfl⟩
        have tz_40 : z_40.toInt = i_1.toInt + 1 := by rw [ez_40]; exact ti_addc (by decide) (by omega) (by omega)
        refine lv_iinc (v := z_40) (lv' := [(6, .int z_40), (7, .int x), (0, .ref (mm 0)), (1, .int a), (2, .int x), (3, .int z), (4, .int g), (5, .int h)]) hx hb dX8_feed_115 hl (k := 1) rfl (ez_40.symm) (by decide) rfl (fun ls hl => ?_)
        refine lv_goto (tgt := 24) hx hb dX8_feed_118 (by decide) ?_
        obtain rfl : z_40 = z_39 := ti_of (by omega)
        have hP : va_P D vwCl [((mm 0), .inr (7, [.int 0, .ref (mm 1), .ref (mm 2), .ref (mm 3), .ref (mm 4), .ref (mm 5), .int z_40, .int 0, .int 0, .int 0, .int 0, .int 0, .int 0, .int 0, .int 0, .int (-1), .int 0, .ref (mm 6), .int 0, .ref (mm 7), .ref (mm 8), .ref (mm 9), .int 0, .ref (mm 10), .ref (mm 11), .int 0, .int 0, .ref (mm 12), .ref (mm 13), .int 0, .ref (mm 14), .ref (mm 15), .ref (mm 16)])), ((mm 4), .inl (k 0, 900, .inl f_38))] H := hP
        have hD : va_D A [((mm 0), .inr (7, [.int 0, .ref (mm 1), .ref (mm 2), .ref (mm 3), .ref (mm 4), .ref (mm 5), .int z_40, .int 0, .int 0, .int 0, .int 0, .int 0, .int 0, .int 0, .int 0, .int (-1), .int 0, .ref (mm 6), .int 0, .ref (mm 7), .ref (mm 8), .ref (mm 9), .int 0, .ref (mm 10), .ref (mm 11), .int 0, .int 0, .ref (mm 12), .ref (mm 13), .int 0, .ref (mm 14), .ref (mm 15), .ref (mm 16)])), ((mm 4), .inl (k 0, 900, .inl f_38))] := hD
        exact ih (z_40, f_38) _ _ ls (by show (20 - z_40.toInt).toNat < (20 - i_1.toInt).toNat; omega) ⟨(show 0 ≤ z_40.toInt ∧ z_40.toInt ≤ 20 from ⟨by omega, by omega⟩), hP.sub [0, 1] rfl, hD.sub [0, 1] (by decide) rfl, hS, lv_sub hl [0, 2, 3, 4, 5, 6, 7] rfl⟩
    · have c_5 : i_1.toInt < 4 := ti_nle c_5
      refine lv_iload_n hx hb dX8_feed_37 rfl (lv_at hl 2 rfl) ?_
      refine lv_goto (tgt := 77) hx hb dX8_feed_38 (by decide) ?_
      refine lv_istore (lv' := [(7, .int a), (6, .int i_1), (0, .ref (mm 0)), (1, .int a), (2, .int x), (3, .int z), (4, .int g), (5, .int h)]) hx hb dX8_feed_77 hl (by decide) rfl (fun ls hl => ?_)
      refine lv_aload_n hx hb dX8_feed_79 rfl (lv_at hl 2 rfl) ?_
      refine va_get (D := D) (ci := 7) (v := .ref (mm 4)) (C := RX8) (T := TX8) (N := 33) hx hb hts inlX8 hown hK hP 0 rfl rfl 4 (by decide) (hts _ mw_94) (fun _ h9 => h9) rfl dX8_feed_80 ?_
      refine lv_aload_n hx hb dX8_feed_83 rfl (lv_at hl 2 rfl) ?_
      refine va_get (D := D) (ci := 7) (v := .int i_1) (C := RX8) (T := TX8) (N := 33) hx hb hts inlX8 hown hK hP 0 rfl rfl 6 (by decide) (hts _ mw_126) (fun _ h9 => h9) rfl dX8_feed_84 ?_
      refine lv_iload hx hb dX8_feed_87 (lv_at hl 0 rfl) ?_
      refine lv_bipush (v := 24) hx hb dX8_feed_89 (by decide) ?_
      refine lv_bipush (v := 8) hx hb dX8_feed_91 (by decide) ?_
      refine lv_iload hx hb dX8_feed_93 (lv_at hl 1 rfl) ?_
      refine lv_iconst (v := 4) hx hb dX8_feed_95 (by decide) ?_
      refine lv_irem hx hb dX8_feed_96 (by decide) ?_
      refine lv_topi (fun z_41 ez_41 => ?_)
      refine lv_imul hx hb dX8_feed_97 ?_
      refine lv_topi (fun z_42 ez_42 => ?_)
      refine lv_isub hx hb dX8_feed_98 ?_
      refine lv_topi (fun z_43 ez_43 => ?_)
      refine lv_ishr hx hb dX8_feed_99 ?_
      refine lv_topi (fun z_44 ez_44 => ?_)
      refine lv_sipush (v := 255) hx hb dX8_feed_100 (by decide) ?_
      refine lv_iand hx hb dX8_feed_103 ?_
      refine lv_topi (fun z_45 ez_45 => ?_)
      refine va_iast hx hb hK hP hD hS 1 0 rfl rfl (vp_in_o (by omega) (by omega)) dX8_feed_104 (fun H locs hP hD hS => ?_)
      have hP : va_P D vwCl [((mm 0), .inr (7, [.int 0, .ref (mm 1), .ref (mm 2), .ref (mm 3), .ref (mm 4), .ref (mm 5), .int i_1, .int 0, .int 0, .int 0, .int 0, .int 0, .int 0, .int 0, .int 0, .int (-1), .int 0, .ref (mm 6), .int 0, .ref (mm 7), .ref (mm 8), .ref (mm 9), .int 0, .ref (mm 10), .ref (mm 11), .int 0, .int 0, .ref (mm 12), .ref (mm 13), .int 0, .ref (mm 14), .ref (mm 15), .ref (mm 16)])), ((mm 4), .inl (k 0, 900, .inl (upd f_2 i_1.toNatClampNeg z_45)))] H := hP
      have hD : va_D A [((mm 0), .inr (7, [.int 0, .ref (mm 1), .ref (mm 2), .ref (mm 3), .ref (mm 4), .ref (mm 5), .int i_1, .int 0, .int 0, .int 0, .int 0, .int 0, .int 0, .int 0, .int 0, .int (-1), .int 0, .ref (mm 6), .int 0, .ref (mm 7), .ref (mm 8), .ref (mm 9), .int 0, .ref (mm 10), .ref (mm 11), .int 0, .int 0, .ref (mm 12), .ref (mm 13), .int 0, .ref (mm 14), .ref (mm 15), .ref (mm 16)])), ((mm 4), .inl (k 0, 900, .inl (upd f_2 i_1.toNatClampNeg z_45)))] := hD
      generalize ef_46 : (upd f_2 i_1.toNatClampNeg z_45) = f_46 at hP hD
      refine lv_aload_n hx hb dX8_feed_105 rfl (lv_at hl 2 rfl) ?_
      refine lv_dup hx hb dX8_feed_106 rfl ?_
      refine va_get (D := D) (ci := 7) (v := .int i_1) (C := RX8) (T := TX8) (N := 33) hx hb hts inlX8 hown hK hP 0 rfl rfl 6 (by decide) (hts _ mw_126) (fun _ h9 => h9) rfl dX8_feed_107 ?_
      refine lv_iconst (v := 1) hx hb dX8_feed_110 (by decide) ?_
      refine lv_iadd hx hb dX8_feed_111 ?_
      refine lv_topi (fun z_47 ez_47 => ?_)
      have tz_47 : z_47.toInt = i_1.toInt + 1 := by rw [ez_47]; exact ti_addc (by decide) (by omega) (by omega)
      refine va_put (D := D) (ci := 7) (v := .int z_47) (ty := .int) (C := RX8) (T := TX8) (N := 33) hx hb hts inlX8 tyX8 tyX8_ok nmX8 hown hK hP hD hS 0 rfl rfl 6 (by decide) (hts _ mw_126) (fun _ h9 => h9) rfl (by decide +kernel) rfl rfl (Nat.le_of_ble_eq_true rfl) dX8_feed_112 (fun H locs hP hD hS => ?_)
      have hP : va_P D vwCl [((mm 0), .inr (7, [.int 0, .ref (mm 1), .ref (mm 2), .ref (mm 3), .ref (mm 4), .ref (mm 5), .int z_47, .int 0, .int 0, .int 0, .int 0, .int 0, .int 0, .int 0, .int 0, .int (-1), .int 0, .ref (mm 6), .int 0, .ref (mm 7), .ref (mm 8), .ref (mm 9), .int 0, .ref (mm 10), .ref (mm 11), .int 0, .int 0, .ref (mm 12), .ref (mm 13), .int 0, .ref (mm 14), .ref (mm 15), .ref (mm 16)])), ((mm 4), .inl (k 0, 900, .inl f_46))] H := hP
      have hD : va_D A [((mm 0), .inr (7, [.int 0, .ref (mm 1), .ref (mm 2), .ref (mm 3), .ref (mm 4), .ref (mm 5), .int z_47, .int 0, .int 0, .int 0, .int 0, .int 0, .int 0, .int 0, .int 0, .int (-1), .int 0, .ref (mm 6), .int 0, .ref (mm 7), .ref (mm 8), .ref (mm 9), .int 0, .ref (mm 10), .ref (mm 11), .int 0, .int 0, .ref (mm 12), .ref (mm 13), .int 0, .ref (mm 14), .ref (mm 15), .ref (mm 16)])), ((mm 4), .inl (k 0, 900, .inl f_46))] := hD
      obtain ⟨z_48, ez_48⟩ : ∃ y : Int32, y = i_1 + 1 := ⟨_, rfl⟩
      have tz_48 : z_48.toInt = i_1.toInt + 1 := by rw [ez_48]; exact ti_addc (by decide) (by omega) (by omega)
      refine lv_iinc (v := z_48) (lv' := [(6, .int z_48), (7, .int a), (0, .ref (mm 0)), (1, .int a), (2, .int x), (3, .int z), (4, .int g), (5, .int h)]) hx hb dX8_feed_115 hl (k := 1) rfl (ez_48.symm) (by decide) rfl (fun ls hl => ?_)
      refine lv_goto (tgt := 24) hx hb dX8_feed_118 (by decide) ?_
      obtain rfl : z_48 = z_47 := ti_of (by omega)
      have hP : va_P D vwCl [((mm 0), .inr (7, [.int 0, .ref (mm 1), .ref (mm 2), .ref (mm 3), .ref (mm 4), .ref (mm 5), .int z_48, .int 0, .int 0, .int 0, .int 0, .int 0, .int 0, .int 0, .int 0, .int (-1), .int 0, .ref (mm 6), .int 0, .ref (mm 7), .ref (mm 8), .ref (mm 9), .int 0, .ref (mm 10), .ref (mm 11), .int 0, .int 0, .ref (mm 12), .ref (mm 13), .int 0, .ref (mm 14), .ref (mm 15), .ref (mm 16)])), ((mm 4), .inl (k 0, 900, .inl f_46))] H := hP
      have hD : va_D A [((mm 0), .inr (7, [.int 0, .ref (mm 1), .ref (mm 2), .ref (mm 3), .ref (mm 4), .ref (mm 5), .int z_48, .int 0, .int 0, .int 0, .int 0, .int 0, .int 0, .int 0, .int 0, .int (-1), .int 0, .ref (mm 6), .int 0, .ref (mm 7), .ref (mm 8), .ref (mm 9), .int 0, .ref (mm 10), .ref (mm 11), .int 0, .int 0, .ref (mm 12), .ref (mm 13), .int 0, .ref (mm 14), .ref (mm 15), .ref (mm 16)])), ((mm 4), .inl (k 0, 900, .inl f_46))] := hD
      exact ih (z_48, f_46) _ _ ls (by show (20 - z_48.toInt).toNat < (20 - i_1.toInt).toNat; omega) ⟨(show 0 ≤ z_48.toInt ∧ z_48.toInt ≤ 20 from ⟨by omega, by omega⟩), hP.sub [0, 1] rfl, hD.sub [0, 1] (by decide) rfl, hS, lv_sub hl [0, 2, 3, 4, 5, 6, 7] rfl⟩
set_option maxHeartbeats 4000000 in
set_option maxRecDepth 100000 in
theorem c_M_row (l : Launch) (D : va_G) (k : Nat → ClassId) (mm : Nat → Nat) (f : Nat → Int32) (a : Int32) (sz : Nat) (hf0 : f 0 = 0) (hf7 : f 7 = 0) : Met l yX8_row (Cond.code yX8_row cX8_row 3 (some .int) :: wsL_law) ({ frames := 2, cells := 0, slots := 0, locals := 120 } : Room) (va_Pc [.ref (mm 0), .int a] (pu D k sz [((mm 0), .inr (7, [.int 0, .ref (mm 1), .ref (mm 2), .ref (mm 3), .ref (mm 4), .ref (mm 5), .int 0, .int 0, .int 0, .int 0, .int 0, .int 0, .int 0, .int 0, .int 0, .int (-1), .int 0, .ref (mm 6), .int 0, .ref (mm 7), .ref (mm 8), .ref (mm 9), .int 0, .ref (mm 10), .ref (mm 11), .int 0, .int 0, .ref (mm 12), .ref (mm 13), .int 0, .ref (mm 14), .ref (mm 15), .ref (mm 16)])), ((mm 1), .inl (k 0, 1227, .inl f)), ((mm 5), .inl (k 0, 409, .inl (fun _ => 0)))])) (va_Qi (fun rr (uu : Unit) => rr = if a.toInt = 0 then 0 else (-3)) (qu D (va_A [((mm 0), .inr (7, [.int 0, .ref (mm 1), .ref (mm 2), .ref (mm 3), .ref (mm 4), .ref (mm 5), .int 0, .int 0, .int 0, .int 0, .int 0, .int 0, .int 0, .int 0, .int 0, .int (-1), .int 0, .ref (mm 6), .int 0, .ref (mm 7), .ref (mm 8), .ref (mm 9), .int 0, .ref (mm 10), .ref (mm 11), .int 0, .int 0, .ref (mm 12), .ref (mm 13), .int 0, .ref (mm 14), .ref (mm 15), .ref (mm 16)])), ((mm 1), .inl (k 0, 1227, .inl f)), ((mm 5), .inl (k 0, 409, .inl (fun _ => 0)))] sz) (fun uu : Unit => [])) (va_A [((mm 0), .inr (7, [.int 0, .ref (mm 1), .ref (mm 2), .ref (mm 3), .ref (mm 4), .ref (mm 5), .int 0, .int 0, .int 0, .int 0, .int 0, .int 0, .int 0, .int 0, .int 0, .int (-1), .int 0, .ref (mm 6), .int 0, .ref (mm 7), .ref (mm 8), .ref (mm 9), .int 0, .ref (mm 10), .ref (mm 11), .int 0, .int 0, .ref (mm 12), .ref (mm 13), .int 0, .ref (mm 14), .ref (mm 15), .ref (mm 16)])), ((mm 1), .inl (k 0, 1227, .inl f)), ((mm 5), .inl (k 0, 409, .inl (fun _ => 0)))] sz)) 0 0 (va_A [((mm 0), .inr (7, [.int 0, .ref (mm 1), .ref (mm 2), .ref (mm 3), .ref (mm 4), .ref (mm 5), .int 0, .int 0, .int 0, .int 0, .int 0, .int 0, .int 0, .int 0, .int 0, .int (-1), .int 0, .ref (mm 6), .int 0, .ref (mm 7), .ref (mm 8), .ref (mm 9), .int 0, .ref (mm 10), .ref (mm 11), .int 0, .int 0, .ref (mm 12), .ref (mm 13), .int 0, .ref (mm 14), .ref (mm 15), .ref (mm 16)])), ((mm 1), .inl (k 0, 1227, .inl f)), ((mm 5), .inl (k 0, 409, .inl (fun _ => 0)))] sz) := by
  refine Met.ofW (cc := cX8_row) (maxL := 3) (ret := (some .int)) (by decide) rfl ?_
  intro p e s m args below meth c s₁ B hml hv
  obtain ⟨rfl, hsz, hP, hK, hD0⟩ := hv
  have hx := B.exec
  have hb := B.bytes
  have hr := B.returns
  have hts : ∀ w ∈ wsL_law, w.before _ s = true := fun w h => atoms_spec (ws := Cond.code yX8_row cX8_row 3 (some .int) :: wsL_law) B.pre w (List.mem_cons_of_mem _ h)
  have hown : s.vm.findClass RX8 = some m.cls := findClass_of_methodNamed B.named
  have hlocks := B.notSynchronized
  subst hsz
  have hD := hD0.self (sz := s.heap.size)
  generalize hAe : va_A [((mm 0), .inr (7, [.int 0, .ref (mm 1), .ref (mm 2), .ref (mm 3), .ref (mm 4), .ref (mm 5), .int 0, .int 0, .int 0, .int 0, .int 0, .int 0, .int 0, .int 0, .int 0, .int (-1), .int 0, .ref (mm 6), .int 0, .ref (mm 7), .ref (mm 8), .ref (mm 9), .int 0, .ref (mm 10), .ref (mm 11), .int 0, .int 0, .ref (mm 12), .ref (mm 13), .int 0, .ref (mm 14), .ref (mm 15), .ref (mm 16)])), ((mm 1), .inl (k 0, 1227, .inl f)), ((mm 5), .inl (k 0, 409, .inl (fun _ => 0)))] s.heap.size = A at hD ⊢
  have hA : ∀ q : Nat, s.heap.size ≤ q → A q := fun q h => by rw [← hAe]; exact Or.inr h
  have hS : va_S A s.heap s.heap [] := va_S.rf
  have hP : va_P D vwCl [((mm 0), .inr (7, [.int 0, .ref (mm 1), .ref (mm 2), .ref (mm 3), .ref (mm 4), .ref (mm 5), .int 0, .int 0, .int 0, .int 0, .int 0, .int 0, .int 0, .int 0, .int 0, .int (-1), .int 0, .ref (mm 6), .int 0, .ref (mm 7), .ref (mm 8), .ref (mm 9), .int 0, .ref (mm 10), .ref (mm 11), .int 0, .int 0, .ref (mm 12), .ref (mm 13), .int 0, .ref (mm 14), .ref (mm 15), .ref (mm 16)])), ((mm 1), .inl (k 0, 1227, .inl f)), ((mm 5), .inl (k 0, 409, .inl (fun _ => 0)))] s.heap := hP
  have hl := lv_entry ([.ref (mm 0), .int a]) (n := 3) (Nat.le_of_ble_eq_true rfl)
  rw [lg_entry_eq]
  generalize (lg_sl ([.ref (mm 0), .int a]) ++ List.replicate (3 - (lg_sl ([.ref (mm 0), .int a])).length) Slot.unset).toArray = ls at hl ⊢
  have hl : lv_has ls 3 [(0, .ref (mm 0)), (1, .int a)] := hl
  refine lv_aload_n hx hb dX8_row_0 rfl (lv_at hl 0 rfl) ?_
  refine lv_iconst (v := 0) hx hb dX8_row_1 (by decide) ?_
  refine va_put (D := D) (ci := 7) (v := .int 0) (ty := .int) (C := RX8) (T := TX8) (N := 33) hx hb hts inlX8 tyX8 tyX8_ok nmX8 hown hK hP hD hS 0 rfl rfl 0 (by decide) (hts _ mw_125) (fun _ h9 => h9) rfl (by decide +kernel) rfl rfl (Nat.le_of_ble_eq_true rfl) dX8_row_2 (fun H locs hP hD hS => ?_)
  have hP : va_P D vwCl [((mm 0), .inr (7, [.int 0, .ref (mm 1), .ref (mm 2), .ref (mm 3), .ref (mm 4), .ref (mm 5), .int 0, .int 0, .int 0, .int 0, .int 0, .int 0, .int 0, .int 0, .int 0, .int (-1), .int 0, .ref (mm 6), .int 0, .ref (mm 7), .ref (mm 8), .ref (mm 9), .int 0, .ref (mm 10), .ref (mm 11), .int 0, .int 0, .ref (mm 12), .ref (mm 13), .int 0, .ref (mm 14), .ref (mm 15), .ref (mm 16)])), ((mm 1), .inl (k 0, 1227, .inl f)), ((mm 5), .inl (k 0, 409, .inl (fun _ => 0)))] H := hP
  have hD : va_D A [((mm 0), .inr (7, [.int 0, .ref (mm 1), .ref (mm 2), .ref (mm 3), .ref (mm 4), .ref (mm 5), .int 0, .int 0, .int 0, .int 0, .int 0, .int 0, .int 0, .int 0, .int 0, .int (-1), .int 0, .ref (mm 6), .int 0, .ref (mm 7), .ref (mm 8), .ref (mm 9), .int 0, .ref (mm 10), .ref (mm 11), .int 0, .int 0, .ref (mm 12), .ref (mm 13), .int 0, .ref (mm 14), .ref (mm 15), .ref (mm 16)])), ((mm 1), .inl (k 0, 1227, .inl f)), ((mm 5), .inl (k 0, 409, .inl (fun _ => 0)))] := hD
  refine lv_iload_n hx hb dX8_row_5 rfl (lv_at hl 1 rfl) ?_
  refine lv_i2l (v := a.toInt64) hx hb dX8_row_6 rfl ?_
  refine lv_lconst (v := 0) hx hb dX8_row_7 (by decide) ?_
  refine lv_aload_n hx hb dX8_row_8 rfl (lv_at hl 0 rfl) ?_
  refine va_get (D := D) (ci := 7) (v := .int 0) (C := RX8) (T := TX8) (N := 33) hx hb hts inlX8 hown hK hP 0 rfl rfl 6 (by decide) (hts _ mw_126) (fun _ h9 => h9) rfl dX8_row_9 ?_
  refine lv_i2l (v := 0) hx hb dX8_row_12 (by decide) ?_
  refine kS_i (As := [.long a.toInt64, .long 0, .long 0]) (rest := []) (cs := []) ⟨hx, hb, hml, hown, hts⟩ (c_M_within l D k a 0 0) (gS mw_294 mw_295 mw_5 mw_296) hd_yX8_within rfl rfl ⟨Nat.le_of_ble_eq_true rfl, Nat.le_of_ble_eq_true rfl⟩ hK (hP.sub (ws' := []) [] rfl) rfl hl.1 rfl (Nat.le_of_ble_eq_true rfl) dX8_row_13 ⟨Nat.le_of_ble_eq_true rfl, Nat.le_of_ble_eq_true rfl⟩ (fun r_1 hr_1 => ?_)
  by_cases hc_2 : 0 ≤ a.toInt ∧ a.toInt ≤ 0
  · obtain rfl : r_1 = 1 := hr_1.trans (if_pos hc_2)
    have q_3 : a = 0 := ti_of (show a.toInt = 0 from by omega)
    refine lv_if_ne (tgt := 22) hx hb dX8_row_16 (by decide) (fun _ => ?_) (fun c9 => absurd c9 (by decide))
    refine lv_aload_n hx hb dX8_row_22 rfl (lv_at hl 0 rfl) ?_
    refine lv_iload_n hx hb dX8_row_23 rfl (lv_at hl 1 rfl) ?_
    refine lv_ni (v := 0) (q_3) ?_
    refine va_put (D := D) (ci := 7) (v := .int 0) (ty := .int) (C := RX8) (T := TX8) (N := 33) hx hb hts inlX8 tyX8 tyX8_ok nmX8 hown hK hP hD hS 0 rfl rfl 9 (by decide) (hts _ mw_287) (fun _ h9 => h9) rfl (by decide +kernel) rfl rfl (Nat.le_of_ble_eq_true rfl) dX8_row_24 (fun H locs hP hD hS => ?_)
    have hP : va_P D vwCl [((mm 0), .inr (7, [.int 0, .ref (mm 1), .ref (mm 2), .ref (mm 3), .ref (mm 4), .ref (mm 5), .int 0, .int 0, .int 0, .int 0, .int 0, .int 0, .int 0, .int 0, .int 0, .int (-1), .int 0, .ref (mm 6), .int 0, .ref (mm 7), .ref (mm 8), .ref (mm 9), .int 0, .ref (mm 10), .ref (mm 11), .int 0, .int 0, .ref (mm 12), .ref (mm 13), .int 0, .ref (mm 14), .ref (mm 15), .ref (mm 16)])), ((mm 1), .inl (k 0, 1227, .inl f)), ((mm 5), .inl (k 0, 409, .inl (fun _ => 0)))] H := hP
    have hD : va_D A [((mm 0), .inr (7, [.int 0, .ref (mm 1), .ref (mm 2), .ref (mm 3), .ref (mm 4), .ref (mm 5), .int 0, .int 0, .int 0, .int 0, .int 0, .int 0, .int 0, .int 0, .int 0, .int (-1), .int 0, .ref (mm 6), .int 0, .ref (mm 7), .ref (mm 8), .ref (mm 9), .int 0, .ref (mm 10), .ref (mm 11), .int 0, .int 0, .ref (mm 12), .ref (mm 13), .int 0, .ref (mm 14), .ref (mm 15), .ref (mm 16)])), ((mm 1), .inl (k 0, 1227, .inl f)), ((mm 5), .inl (k 0, 409, .inl (fun _ => 0)))] := hD
    refine lv_aload_n hx hb dX8_row_27 rfl (lv_at hl 0 rfl) ?_
    refine lv_iconst (v := 0) hx hb dX8_row_28 (by decide) ?_
    refine va_put (D := D) (ci := 7) (v := .int 0) (ty := .int) (C := RX8) (T := TX8) (N := 33) hx hb hts inlX8 tyX8 tyX8_ok nmX8 hown hK hP hD hS 0 rfl rfl 6 (by decide) (hts _ mw_126) (fun _ h9 => h9) rfl (by decide +kernel) rfl rfl (Nat.le_of_ble_eq_true rfl) dX8_row_29 (fun H locs hP hD hS => ?_)
    have hP : va_P D vwCl [((mm 0), .inr (7, [.int 0, .ref (mm 1), .ref (mm 2), .ref (mm 3), .ref (mm 4), .ref (mm 5), .int 0, .int 0, .int 0, .int 0, .int 0, .int 0, .int 0, .int 0, .int 0, .int (-1), .int 0, .ref (mm 6), .int 0, .ref (mm 7), .ref (mm 8), .ref (mm 9), .int 0, .ref (mm 10), .ref (mm 11), .int 0, .int 0, .ref (mm 12), .ref (mm 13), .int 0, .ref (mm 14), .ref (mm 15), .ref (mm 16)])), ((mm 1), .inl (k 0, 1227, .inl f)), ((mm 5), .inl (k 0, 409, .inl (fun _ => 0)))] H := hP
    have hD : va_D A [((mm 0), .inr (7, [.int 0, .ref (mm 1), .ref (mm 2), .ref (mm 3), .ref (mm 4), .ref (mm 5), .int 0, .int 0, .int 0, .int 0, .int 0, .int 0, .int 0, .int 0, .int 0, .int (-1), .int 0, .ref (mm 6), .int 0, .ref (mm 7), .ref (mm 8), .ref (mm 9), .int 0, .ref (mm 10), .ref (mm 11), .int 0, .int 0, .ref (mm 12), .ref (mm 13), .int 0, .ref (mm 14), .ref (mm 15), .ref (mm 16)])), ((mm 1), .inl (k 0, 1227, .inl f)), ((mm 5), .inl (k 0, 409, .inl (fun _ => 0)))] := hD
    refine lv_aload_n hx hb dX8_row_32 rfl (lv_at hl 0 rfl) ?_
    refine lv_iconst (v := 0) hx hb dX8_row_33 (by decide) ?_
    refine va_put (D := D) (ci := 7) (v := .int 0) (ty := .int) (C := RX8) (T := TX8) (N := 33) hx hb hts inlX8 tyX8 tyX8_ok nmX8 hown hK hP hD hS 0 rfl rfl 8 (by decide) (hts _ mw_288) (fun _ h9 => h9) rfl (by decide +kernel) rfl rfl (Nat.le_of_ble_eq_true rfl) dX8_row_34 (fun H locs hP hD hS => ?_)
    have hP : va_P D vwCl [((mm 0), .inr (7, [.int 0, .ref (mm 1), .ref (mm 2), .ref (mm 3), .ref (mm 4), .ref (mm 5), .int 0, .int 0, .int 0, .int 0, .int 0, .int 0, .int 0, .int 0, .int 0, .int (-1), .int 0, .ref (mm 6), .int 0, .ref (mm 7), .ref (mm 8), .ref (mm 9), .int 0, .ref (mm 10), .ref (mm 11), .int 0, .int 0, .ref (mm 12), .ref (mm 13), .int 0, .ref (mm 14), .ref (mm 15), .ref (mm 16)])), ((mm 1), .inl (k 0, 1227, .inl f)), ((mm 5), .inl (k 0, 409, .inl (fun _ => 0)))] H := hP
    have hD : va_D A [((mm 0), .inr (7, [.int 0, .ref (mm 1), .ref (mm 2), .ref (mm 3), .ref (mm 4), .ref (mm 5), .int 0, .int 0, .int 0, .int 0, .int 0, .int 0, .int 0, .int 0, .int 0, .int (-1), .int 0, .ref (mm 6), .int 0, .ref (mm 7), .ref (mm 8), .ref (mm 9), .int 0, .ref (mm 10), .ref (mm 11), .int 0, .int 0, .ref (mm 12), .ref (mm 13), .int 0, .ref (mm 14), .ref (mm 15), .ref (mm 16)])), ((mm 1), .inl (k 0, 1227, .inl f)), ((mm 5), .inl (k 0, 409, .inl (fun _ => 0)))] := hD
    refine lv_aload_n hx hb dX8_row_37 rfl (lv_at hl 0 rfl) ?_
    refine lv_iconst (v := 0) hx hb dX8_row_38 (by decide) ?_
    refine va_put (D := D) (ci := 7) (v := .int 0) (ty := .int) (C := RX8) (T := TX8) (N := 33) hx hb hts inlX8 tyX8 tyX8_ok nmX8 hown hK hP hD hS 0 rfl rfl 12 (by decide) (hts _ mw_289) (fun _ h9 => h9) rfl (by decide +kernel) rfl rfl (Nat.le_of_ble_eq_true rfl) dX8_row_39 (fun H locs hP hD hS => ?_)
    have hP : va_P D vwCl [((mm 0), .inr (7, [.int 0, .ref (mm 1), .ref (mm 2), .ref (mm 3), .ref (mm 4), .ref (mm 5), .int 0, .int 0, .int 0, .int 0, .int 0, .int 0, .int 0, .int 0, .int 0, .int (-1), .int 0, .ref (mm 6), .int 0, .ref (mm 7), .ref (mm 8), .ref (mm 9), .int 0, .ref (mm 10), .ref (mm 11), .int 0, .int 0, .ref (mm 12), .ref (mm 13), .int 0, .ref (mm 14), .ref (mm 15), .ref (mm 16)])), ((mm 1), .inl (k 0, 1227, .inl f)), ((mm 5), .inl (k 0, 409, .inl (fun _ => 0)))] H := hP
    have hD : va_D A [((mm 0), .inr (7, [.int 0, .ref (mm 1), .ref (mm 2), .ref (mm 3), .ref (mm 4), .ref (mm 5), .int 0, .int 0, .int 0, .int 0, .int 0, .int 0, .int 0, .int 0, .int 0, .int (-1), .int 0, .ref (mm 6), .int 0, .ref (mm 7), .ref (mm 8), .ref (mm 9), .int 0, .ref (mm 10), .ref (mm 11), .int 0, .int 0, .ref (mm 12), .ref (mm 13), .int 0, .ref (mm 14), .ref (mm 15), .ref (mm 16)])), ((mm 1), .inl (k 0, 1227, .inl f)), ((mm 5), .inl (k 0, 409, .inl (fun _ => 0)))] := hD
    refine lv_aload_n hx hb dX8_row_42 rfl (lv_at hl 0 rfl) ?_
    refine va_get (D := D) (ci := 7) (v := .ref (mm 5)) (C := RX8) (T := TX8) (N := 33) hx hb hts inlX8 hown hK hP 0 rfl rfl 5 (by decide) (hts _ mw_95) (fun _ h9 => h9) rfl dX8_row_43 ?_
    refine kS_uv (As := [.ref (mm 5)]) (rest := []) (wc := [((mm 5), .inl (k 0, 409, .inl (fun _ => 0)))]) (wr := [((mm 0), .inr (7, [.int 0, .ref (mm 1), .ref (mm 2), .ref (mm 3), .ref (mm 4), .ref (mm 5), .int 0, .int 0, .int 0, .int 0, .int 0, .int 0, .int 0, .int 0, .int 0, .int (-1), .int 0, .ref (mm 6), .int 0, .ref (mm 7), .ref (mm 8), .ref (mm 9), .int 0, .ref (mm 10), .ref (mm 11), .int 0, .int 0, .ref (mm 12), .ref (mm 13), .int 0, .ref (mm 14), .ref (mm 15), .ref (mm 16)])), ((mm 1), .inl (k 0, 1227, .inl f))]) ⟨hx, hb, hml, hown, hts⟩ (c_M_plain409 l D k (mm 5) _) (gS mw_108 mw_109 mw_5 mw_110) hd_yX8_plain rfl rfl ⟨Nat.le_of_ble_eq_true rfl, Nat.le_of_ble_eq_true rfl⟩ hK hP hD hS hA [2] [0, 1] rfl rfl (by decide) (by decide) (by decide) rfl hl.1 rfl (Nat.le_of_ble_eq_true rfl) dX8_row_46 ⟨Nat.le_of_ble_eq_true rfl, Nat.le_of_ble_eq_true rfl⟩ (fun u_5 H locs hw hP hD hS => ?_)
    obtain ⟨v_6, rfl⟩ : ∃ z, z = u_5 := ⟨_, rfl⟩
    obtain ⟨h_7, h_8, h_9, h_10, h_11, h_12, h_13, h_14⟩ := hw
    have h_7 : v_6 0 = 0 := h_7
    have h_8 : v_6 1 = 0 := h_8
    have h_9 : v_6 2 = 3 := h_9
    have h_10 : v_6 3 = 8 := h_10
    have h_11 : v_6 4 = 4 := h_11
    have h_12 : v_6 5 = 4 := h_12
    have h_13 : v_6 6 = 0 := h_13
    have h_14 : v_6 7 = 0 := h_14
    have hP : va_P D vwCl [((mm 0), .inr (7, [.int 0, .ref (mm 1), .ref (mm 2), .ref (mm 3), .ref (mm 4), .ref (mm 5), .int 0, .int 0, .int 0, .int 0, .int 0, .int 0, .int 0, .int 0, .int 0, .int (-1), .int 0, .ref (mm 6), .int 0, .ref (mm 7), .ref (mm 8), .ref (mm 9), .int 0, .ref (mm 10), .ref (mm 11), .int 0, .int 0, .ref (mm 12), .ref (mm 13), .int 0, .ref (mm 14), .ref (mm 15), .ref (mm 16)])), ((mm 1), .inl (k 0, 1227, .inl f)), ((mm 5), .inl (k 0, 409, .inl v_6))] H := hP
    have hD : va_D A [((mm 0), .inr (7, [.int 0, .ref (mm 1), .ref (mm 2), .ref (mm 3), .ref (mm 4), .ref (mm 5), .int 0, .int 0, .int 0, .int 0, .int 0, .int 0, .int 0, .int 0, .int 0, .int (-1), .int 0, .ref (mm 6), .int 0, .ref (mm 7), .ref (mm 8), .ref (mm 9), .int 0, .ref (mm 10), .ref (mm 11), .int 0, .int 0, .ref (mm 12), .ref (mm 13), .int 0, .ref (mm 14), .ref (mm 15), .ref (mm 16)])), ((mm 1), .inl (k 0, 1227, .inl f)), ((mm 5), .inl (k 0, 409, .inl v_6))] := hD
    refine lv_aload_n hx hb dX8_row_49 rfl (lv_at hl 0 rfl) ?_
    refine kV_uv (q0 := 0) (As := []) (rest := []) (wc := [((mm 0), .inr (7, [.int 0, .ref (mm 1), .ref (mm 2), .ref (mm 3), .ref (mm 4), .ref (mm 5), .int 0, .int 0, .int 0, .int 0, .int 0, .int 0, .int 0, .int 0, .int 0, .int (-1), .int 0, .ref (mm 6), .int 0, .ref (mm 7), .ref (mm 8), .ref (mm 9), .int 0, .ref (mm 10), .ref (mm 11), .int 0, .int 0, .ref (mm 12), .ref (mm 13), .int 0, .ref (mm 14), .ref (mm 15), .ref (mm 16)]))]) (wr := [((mm 1), .inl (k 0, 1227, .inl f)), ((mm 5), .inl (k 0, 409, .inl v_6))]) ⟨hx, hb, hml, hown, hts⟩ (c_M_nextToken0 l D k _ _) (gV mw_297 mw_298 mw_299 mw_5 mw_300) hd_yX8_nextToken rfl rfl ⟨Nat.le_of_ble_eq_true rfl, Nat.le_of_ble_eq_true rfl⟩ hK hP hD hS hA [0] [1, 2] rfl rfl (by decide) (by decide) (by decide) rfl rfl rfl rfl hl.1 rfl (Nat.le_of_ble_eq_true rfl) dX8_row_50 ⟨Nat.le_of_ble_eq_true rfl, Nat.le_of_ble_eq_true rfl⟩ (fun u_16 H locs hw hP hD hS => ?_)
    have hP : va_P D vwCl [((mm 1), .inl (k 0, 1227, .inl f)), ((mm 5), .inl (k 0, 409, .inl v_6)), ((mm 0), .inr (7, [.int 0, .ref (mm 1), .ref (mm 2), .ref (mm 3), .ref (mm 4), .ref (mm 5), .int 0, .int 0, .int 0, .int 0, .int 13, .int 0, .int 0, .int 0, .int 0, .int (-1), .int 0, .ref (mm 6), .int 0, .ref (mm 7), .ref (mm 8), .ref (mm 9), .int 0, .ref (mm 10), .ref (mm 11), .int 0, .int 0, .ref (mm 12), .ref (mm 13), .int 0, .ref (mm 14), .ref (mm 15), .ref (mm 16)]))] H := hP
    have hD : va_D A [((mm 1), .inl (k 0, 1227, .inl f)), ((mm 5), .inl (k 0, 409, .inl v_6)), ((mm 0), .inr (7, [.int 0, .ref (mm 1), .ref (mm 2), .ref (mm 3), .ref (mm 4), .ref (mm 5), .int 0, .int 0, .int 0, .int 0, .int 13, .int 0, .int 0, .int 0, .int 0, .int (-1), .int 0, .ref (mm 6), .int 0, .ref (mm 7), .ref (mm 8), .ref (mm 9), .int 0, .ref (mm 10), .ref (mm 11), .int 0, .int 0, .ref (mm 12), .ref (mm 13), .int 0, .ref (mm 14), .ref (mm 15), .ref (mm 16)]))] := hD
    refine lv_aload_n hx hb dX8_row_53 rfl (lv_at hl 0 rfl) ?_
    refine va_get (D := D) (ci := 7) (v := .int 0) (C := RX8) (T := TX8) (N := 33) hx hb hts inlX8 hown hK hP 2 rfl rfl 12 (by decide) (hts _ mw_289) (fun _ h9 => h9) rfl dX8_row_54 ?_
    refine lv_if_ne (tgt := 76) hx hb dX8_row_57 (by decide) (fun c9 => absurd c9 (by decide)) (fun _ => ?_)
    refine lv_aload_n hx hb dX8_row_60 rfl (lv_at hl 0 rfl) ?_
    refine va_get (D := D) (ci := 7) (v := .int 13) (C := RX8) (T := TX8) (N := 33) hx hb hts inlX8 hown hK hP 2 rfl rfl 10 (by decide) (hts _ mw_290) (fun _ h9 => h9) rfl dX8_row_61 ?_
    refine lv_bipush (v := 13) hx hb dX8_row_64 (by decide) ?_
    refine lv_icmp_eq (tgt := 76) hx hb dX8_row_66 (by decide) (fun _ => ?_) (fun c9 => absurd c9 (by decide))
    refine lv_aload_n hx hb dX8_row_76 rfl (lv_at hl 0 rfl) ?_
    refine lv_aload_n hx hb dX8_row_77 rfl (lv_at hl 0 rfl) ?_
    refine va_get (D := D) (ci := 7) (v := .int 0) (C := RX8) (T := TX8) (N := 33) hx hb hts inlX8 hown hK hP 2 rfl rfl 12 (by decide) (hts _ mw_289) (fun _ h9 => h9) rfl dX8_row_78 ?_
    refine va_put (D := D) (ci := 7) (v := .int 0) (ty := .int) (C := RX8) (T := TX8) (N := 33) hx hb hts inlX8 tyX8 tyX8_ok nmX8 hown hK hP hD hS 2 rfl rfl 14 (by decide) (hts _ mw_291) (fun _ h9 => h9) rfl (by decide +kernel) rfl rfl (Nat.le_of_ble_eq_true rfl) dX8_row_81 (fun H locs hP hD hS => ?_)
    have hP : va_P D vwCl [((mm 1), .inl (k 0, 1227, .inl f)), ((mm 5), .inl (k 0, 409, .inl v_6)), ((mm 0), .inr (7, [.int 0, .ref (mm 1), .ref (mm 2), .ref (mm 3), .ref (mm 4), .ref (mm 5), .int 0, .int 0, .int 0, .int 0, .int 13, .int 0, .int 0, .int 0, .int 0, .int (-1), .int 0, .ref (mm 6), .int 0, .ref (mm 7), .ref (mm 8), .ref (mm 9), .int 0, .ref (mm 10), .ref (mm 11), .int 0, .int 0, .ref (mm 12), .ref (mm 13), .int 0, .ref (mm 14), .ref (mm 15), .ref (mm 16)]))] H := hP
    have hD : va_D A [((mm 1), .inl (k 0, 1227, .inl f)), ((mm 5), .inl (k 0, 409, .inl v_6)), ((mm 0), .inr (7, [.int 0, .ref (mm 1), .ref (mm 2), .ref (mm 3), .ref (mm 4), .ref (mm 5), .int 0, .int 0, .int 0, .int 0, .int 13, .int 0, .int 0, .int 0, .int 0, .int (-1), .int 0, .ref (mm 6), .int 0, .ref (mm 7), .ref (mm 8), .ref (mm 9), .int 0, .ref (mm 10), .ref (mm 11), .int 0, .int 0, .ref (mm 12), .ref (mm 13), .int 0, .ref (mm 14), .ref (mm 15), .ref (mm 16)]))] := hD
    refine lv_aload_n hx hb dX8_row_84 rfl (lv_at hl 0 rfl) ?_
    refine lv_aload_n hx hb dX8_row_85 rfl (lv_at hl 0 rfl) ?_
    refine va_get (D := D) (ci := 7) (v := .int 0) (C := RX8) (T := TX8) (N := 33) hx hb hts inlX8 hown hK hP 2 rfl rfl 12 (by decide) (hts _ mw_289) (fun _ h9 => h9) rfl dX8_row_86 ?_
    refine lv_if_ne (tgt := 96) hx hb dX8_row_89 (by decide) (fun c9 => absurd c9 (by decide)) (fun _ => ?_)
    refine lv_iconst (v := (-1)) hx hb dX8_row_92 (by decide) ?_
    refine lv_goto (tgt := 100) hx hb dX8_row_93 (by decide) ?_
    refine va_put (D := D) (ci := 7) (v := .int (-1)) (ty := .int) (C := RX8) (T := TX8) (N := 33) hx hb hts inlX8 tyX8 tyX8_ok nmX8 hown hK hP hD hS 2 rfl rfl 15 (by decide) (hts _ mw_96) (fun _ h9 => h9) rfl (by decide +kernel) rfl rfl (Nat.le_of_ble_eq_true rfl) dX8_row_100 (fun H locs hP hD hS => ?_)
    have hP : va_P D vwCl [((mm 1), .inl (k 0, 1227, .inl f)), ((mm 5), .inl (k 0, 409, .inl v_6)), ((mm 0), .inr (7, [.int 0, .ref (mm 1), .ref (mm 2), .ref (mm 3), .ref (mm 4), .ref (mm 5), .int 0, .int 0, .int 0, .int 0, .int 13, .int 0, .int 0, .int 0, .int 0, .int (-1), .int 0, .ref (mm 6), .int 0, .ref (mm 7), .ref (mm 8), .ref (mm 9), .int 0, .ref (mm 10), .ref (mm 11), .int 0, .int 0, .ref (mm 12), .ref (mm 13), .int 0, .ref (mm 14), .ref (mm 15), .ref (mm 16)]))] H := hP
    have hD : va_D A [((mm 1), .inl (k 0, 1227, .inl f)), ((mm 5), .inl (k 0, 409, .inl v_6)), ((mm 0), .inr (7, [.int 0, .ref (mm 1), .ref (mm 2), .ref (mm 3), .ref (mm 4), .ref (mm 5), .int 0, .int 0, .int 0, .int 0, .int 13, .int 0, .int 0, .int 0, .int 0, .int (-1), .int 0, .ref (mm 6), .int 0, .ref (mm 7), .ref (mm 8), .ref (mm 9), .int 0, .ref (mm 10), .ref (mm 11), .int 0, .int 0, .ref (mm 12), .ref (mm 13), .int 0, .ref (mm 14), .ref (mm 15), .ref (mm 16)]))] := hD
    refine lv_aload_n hx hb dX8_row_103 rfl (lv_at hl 0 rfl) ?_
    refine va_get (D := D) (ci := 7) (v := .int 0) (C := RX8) (T := TX8) (N := 33) hx hb hts inlX8 hown hK hP 2 rfl rfl 12 (by decide) (hts _ mw_289) (fun _ h9 => h9) rfl dX8_row_104 ?_
    refine lv_if_eq (tgt := 118) hx hb dX8_row_107 (by decide) (fun _ => ?_) (fun c9 => absurd c9 (by decide))
    refine lv_iconst (v := 0) hx hb dX8_row_118 (by decide) ?_
    refine lv_istore_n (lv' := [(2, .int 0), (0, .ref (mm 0)), (1, .int a)]) hx hb dX8_row_119 rfl hl (by decide) rfl (fun ls hl => ?_)
    refine W_loop (σ := Int32 × (Nat → Int32)) (fun xx H locs ls => (0 ≤ xx.1.toInt ∧ xx.1.toInt ≤ 409) ∧ (xx.2 0 = 0) ∧ (xx.2 7 = 0) ∧ va_P D vwCl [((mm 1), .inl (k 0, 1227, .inl xx.2)), ((mm 5), .inl (k 0, 409, .inl v_6)), ((mm 0), .inr (7, [.int 0, .ref (mm 1), .ref (mm 2), .ref (mm 3), .ref (mm 4), .ref (mm 5), .int 0, .int 0, .int 0, .int 0, .int 13, .int 0, .int 0, .int 0, .int 0, .int (-1), .int 0, .ref (mm 6), .int 0, .ref (mm 7), .ref (mm 8), .ref (mm 9), .int 0, .ref (mm 10), .ref (mm 11), .int 0, .int 0, .ref (mm 12), .ref (mm 13), .int 0, .ref (mm 14), .ref (mm 15), .ref (mm 16)]))] H ∧ va_D A [((mm 1), .inl (k 0, 1227, .inl xx.2)), ((mm 5), .inl (k 0, 409, .inl v_6)), ((mm 0), .inr (7, [.int 0, .ref (mm 1), .ref (mm 2), .ref (mm 3), .ref (mm 4), .ref (mm 5), .int 0, .int 0, .int 0, .int 0, .int 13, .int 0, .int 0, .int 0, .int 0, .int (-1), .int 0, .ref (mm 6), .int 0, .ref (mm 7), .ref (mm 8), .ref (mm 9), .int 0, .ref (mm 10), .ref (mm 11), .int 0, .int 0, .ref (mm 12), .ref (mm 13), .int 0, .ref (mm 14), .ref (mm 15), .ref (mm 16)]))] ∧ va_S A s.heap H locs ∧ lv_has ls 3 [(2, .int xx.1), (0, .ref (mm 0)), (1, .int a)]) (fun xx => (409 - xx.1.toInt).toNat) ?_ (0, f) _ _ ls ⟨(show 0 ≤ (0 : Int32).toInt ∧ (0 : Int32).toInt ≤ 409 from ⟨by decide, by decide⟩), hf0, hf7, hP.sub [0, 1, 2] rfl, hD.sub [0, 1, 2] (by decide) rfl, hS, lv_sub hl [0, 1, 2] rfl⟩
    intro xx H locs ls hI ih
    obtain ⟨i_17, f_18⟩ := xx
    obtain ⟨h_19, h_20, h_21, hP, hD, hS, hl⟩ := hI
    have h_19 : 0 ≤ i_17.toInt ∧ i_17.toInt ≤ 409 := h_19
    have h_20 : f_18 0 = 0 := h_20
    have h_21 : f_18 7 = 0 := h_21
    obtain ⟨h_19a, h_19b⟩ := h_19
    have hP : va_P D vwCl [((mm 1), .inl (k 0, 1227, .inl f_18)), ((mm 5), .inl (k 0, 409, .inl v_6)), ((mm 0), .inr (7, [.int 0, .ref (mm 1), .ref (mm 2), .ref (mm 3), .ref (mm 4), .ref (mm 5), .int 0, .int 0, .int 0, .int 0, .int 13, .int 0, .int 0, .int 0, .int 0, .int (-1), .int 0, .ref (mm 6), .int 0, .ref (mm 7), .ref (mm 8), .ref (mm 9), .int 0, .ref (mm 10), .ref (mm 11), .int 0, .int 0, .ref (mm 12), .ref (mm 13), .int 0, .ref (mm 14), .ref (mm 15), .ref (mm 16)]))] H := hP
    have hD : va_D A [((mm 1), .inl (k 0, 1227, .inl f_18)), ((mm 5), .inl (k 0, 409, .inl v_6)), ((mm 0), .inr (7, [.int 0, .ref (mm 1), .ref (mm 2), .ref (mm 3), .ref (mm 4), .ref (mm 5), .int 0, .int 0, .int 0, .int 0, .int 13, .int 0, .int 0, .int 0, .int 0, .int (-1), .int 0, .ref (mm 6), .int 0, .ref (mm 7), .ref (mm 8), .ref (mm 9), .int 0, .ref (mm 10), .ref (mm 11), .int 0, .int 0, .ref (mm 12), .ref (mm 13), .int 0, .ref (mm 14), .ref (mm 15), .ref (mm 16)]))] := hD
    have hl : lv_has ls 3 [(2, .int i_17), (0, .ref (mm 0)), (1, .int a)] := hl
    refine lv_iload_n hx hb dX8_row_120 rfl (lv_at hl 0 rfl) ?_
    refine lv_sipush (v := 409) hx hb dX8_row_121 (by decide) ?_
    refine lv_icmp_ge (tgt := 145) hx hb dX8_row_124 (by decide) (fun c_22 => ?_) (fun c_22 => ?_)
    · have c_22 : 409 ≤ i_17.toInt := ti_le c_22
      have qc_22 : i_17 = 409 := ti_of (show i_17.toInt = 409 from by omega)
      refine lv_aload_n hx hb dX8_row_145 rfl (lv_at hl 1 rfl) ?_
      refine lv_dup hx hb dX8_row_146 rfl ?_
      refine va_get (D := D) (ci := 7) (v := .int 0) (C := RX8) (T := TX8) (N := 33) hx hb hts inlX8 hown hK hP 2 rfl rfl 16 (by decide) (hts _ mw_293) (fun _ h9 => h9) rfl dX8_row_147 ?_
      refine lv_iconst (v := 1) hx hb dX8_row_150 (by decide) ?_
      refine lv_iadd hx hb dX8_row_151 ?_
      refine lv_ni (v := 1) (by decide) ?_
      refine va_put (D := D) (ci := 7) (v := .int 1) (ty := .int) (C := RX8) (T := TX8) (N := 33) hx hb hts inlX8 tyX8 tyX8_ok nmX8 hown hK hP hD hS 2 rfl rfl 16 (by decide) (hts _ mw_293) (fun _ h9 => h9) rfl (by decide +kernel) rfl rfl (Nat.le_of_ble_eq_true rfl) dX8_row_152 (fun H locs hP hD hS => ?_)
      have hP : va_P D vwCl [((mm 1), .inl (k 0, 1227, .inl f_18)), ((mm 5), .inl (k 0, 409, .inl v_6)), ((mm 0), .inr (7, [.int 0, .ref (mm 1), .ref (mm 2), .ref (mm 3), .ref (mm 4), .ref (mm 5), .int 0, .int 0, .int 0, .int 0, .int 13, .int 0, .int 0, .int 0, .int 0, .int (-1), .int 1, .ref (mm 6), .int 0, .ref (mm 7), .ref (mm 8), .ref (mm 9), .int 0, .ref (mm 10), .ref (mm 11), .int 0, .int 0, .ref (mm 12), .ref (mm 13), .int 0, .ref (mm 14), .ref (mm 15), .ref (mm 16)]))] H := hP
      have hD : va_D A [((mm 1), .inl (k 0, 1227, .inl f_18)), ((mm 5), .inl (k 0, 409, .inl v_6)), ((mm 0), .inr (7, [.int 0, .ref (mm 1), .ref (mm 2), .ref (mm 3), .ref (mm 4), .ref (mm 5), .int 0, .int 0, .int 0, .int 0, .int 13, .int 0, .int 0, .int 0, .int 0, .int (-1), .int 1, .ref (mm 6), .int 0, .ref (mm 7), .ref (mm 8), .ref (mm 9), .int 0, .ref (mm 10), .ref (mm 11), .int 0, .int 0, .ref (mm 12), .ref (mm 13), .int 0, .ref (mm 14), .ref (mm 15), .ref (mm 16)]))] := hD
      refine lv_aload_n hx hb dX8_row_155 rfl (lv_at hl 1 rfl) ?_
      refine va_get (D := D) (ci := 7) (v := .ref (mm 1)) (C := RX8) (T := TX8) (N := 33) hx hb hts inlX8 hown hK hP 2 rfl rfl 1 (by decide) (hts _ mw_91) (fun _ h9 => h9) rfl dX8_row_156 ?_
      refine lv_bipush (v := 8) hx hb dX8_row_159 (by decide) ?_
      refine lv_aload_n hx hb dX8_row_161 rfl (lv_at hl 1 rfl) ?_
      refine va_get (D := D) (ci := 7) (v := .int 1) (C := RX8) (T := TX8) (N := 33) hx hb hts inlX8 hown hK hP 2 rfl rfl 16 (by decide) (hts _ mw_293) (fun _ h9 => h9) rfl dX8_row_162 ?_
      refine va_iast hx hb hK hP hD hS 0 0 rfl rfl (vp_in_c (by decide)) dX8_row_165 (fun H locs hP hD hS => ?_)
      have hP : va_P D vwCl [((mm 1), .inl (k 0, 1227, .inl (upd f_18 (8 : Int32).toNatClampNeg 1))), ((mm 5), .inl (k 0, 409, .inl v_6)), ((mm 0), .inr (7, [.int 0, .ref (mm 1), .ref (mm 2), .ref (mm 3), .ref (mm 4), .ref (mm 5), .int 0, .int 0, .int 0, .int 0, .int 13, .int 0, .int 0, .int 0, .int 0, .int (-1), .int 1, .ref (mm 6), .int 0, .ref (mm 7), .ref (mm 8), .ref (mm 9), .int 0, .ref (mm 10), .ref (mm 11), .int 0, .int 0, .ref (mm 12), .ref (mm 13), .int 0, .ref (mm 14), .ref (mm 15), .ref (mm 16)]))] H := hP
      have hD : va_D A [((mm 1), .inl (k 0, 1227, .inl (upd f_18 (8 : Int32).toNatClampNeg 1))), ((mm 5), .inl (k 0, 409, .inl v_6)), ((mm 0), .inr (7, [.int 0, .ref (mm 1), .ref (mm 2), .ref (mm 3), .ref (mm 4), .ref (mm 5), .int 0, .int 0, .int 0, .int 0, .int 13, .int 0, .int 0, .int 0, .int 0, .int (-1), .int 1, .ref (mm 6), .int 0, .ref (mm 7), .ref (mm 8), .ref (mm 9), .int 0, .ref (mm 10), .ref (mm 11), .int 0, .int 0, .ref (mm 12), .ref (mm 13), .int 0, .ref (mm 14), .ref (mm 15), .ref (mm 16)]))] := hD
      generalize ef_23 : (upd f_18 (8 : Int32).toNatClampNeg 1) = f_23 at hP hD
      have hf_23_0 : f_23 0 = 0 := by rw [← ef_23]; exact (pk_un (by decide)).trans h_20
      have hf_23_7 : f_23 7 = 0 := by rw [← ef_23]; exact (pk_un (by decide)).trans h_21
      refine lv_aload_n hx hb dX8_row_166 rfl (lv_at hl 1 rfl) ?_
      refine va_get (D := D) (ci := 7) (v := .ref (mm 1)) (C := RX8) (T := TX8) (N := 33) hx hb hts inlX8 hown hK hP 2 rfl rfl 1 (by decide) (hts _ mw_91) (fun _ h9 => h9) rfl dX8_row_167 ?_
      refine lv_bipush (v := 7) hx hb dX8_row_170 (by decide) ?_
      refine va_iald hx hb hK hP 0 0 rfl rfl (vp_in_c (by decide)) dX8_row_172 ?_
      refine lv_ni (v := 0) (hf_23_7) ?_
      have hP9 := hP.sub (ws' := []) [] rfl
      have hD9 := hD.sub (ws' := []) [] (by decide) rfl
      exact W.iret (v := 0) hx hb hr (fun t ht hW => ⟨⟨0, (), rfl, (by (repeat' split) <;> first | rfl | (exfalso; omega)), by rw [ht]; exact hP9, hD9⟩, hS.F ht⟩) hS.2.2 dX8_row_173
    · have c_22 : i_17.toInt < 409 := ti_nle c_22
      refine lv_aload_n hx hb dX8_row_127 rfl (lv_at hl 1 rfl) ?_
      refine va_get (D := D) (ci := 7) (v := .ref (mm 1)) (C := RX8) (T := TX8) (N := 33) hx hb hts inlX8 hown hK hP 2 rfl rfl 1 (by decide) (hts _ mw_91) (fun _ h9 => h9) rfl dX8_row_128 ?_
      refine lv_iload_n hx hb dX8_row_131 rfl (lv_at hl 0 rfl) ?_
      refine lv_aload_n hx hb dX8_row_132 rfl (lv_at hl 1 rfl) ?_
      refine va_get (D := D) (ci := 7) (v := .ref (mm 5)) (C := RX8) (T := TX8) (N := 33) hx hb hts inlX8 hown hK hP 2 rfl rfl 5 (by decide) (hts _ mw_95) (fun _ h9 => h9) rfl dX8_row_133 ?_
      refine lv_iload_n hx hb dX8_row_136 rfl (lv_at hl 0 rfl) ?_
      refine va_iald hx hb hK hP 1 0 rfl rfl (vp_in_o (by omega) (by omega)) dX8_row_137 ?_
      refine lv_topi (fun z_24 ez_24 => ?_)
      refine va_iast hx hb hK hP hD hS 0 0 rfl rfl (vp_in_o (by omega) (by omega)) dX8_row_138 (fun H locs hP hD hS => ?_)
      have hP : va_P D vwCl [((mm 1), .inl (k 0, 1227, .inl (upd f_18 i_17.toNatClampNeg z_24))), ((mm 5), .inl (k 0, 409, .inl v_6)), ((mm 0), .inr (7, [.int 0, .ref (mm 1), .ref (mm 2), .ref (mm 3), .ref (mm 4), .ref (mm 5), .int 0, .int 0, .int 0, .int 0, .int 13, .int 0, .int 0, .int 0, .int 0, .int (-1), .int 0, .ref (mm 6), .int 0, .ref (mm 7), .ref (mm 8), .ref (mm 9), .int 0, .ref (mm 10), .ref (mm 11), .int 0, .int 0, .ref (mm 12), .ref (mm 13), .int 0, .ref (mm 14), .ref (mm 15), .ref (mm 16)]))] H := hP
      have hD : va_D A [((mm 1), .inl (k 0, 1227, .inl (upd f_18 i_17.toNatClampNeg z_24))), ((mm 5), .inl (k 0, 409, .inl v_6)), ((mm 0), .inr (7, [.int 0, .ref (mm 1), .ref (mm 2), .ref (mm 3), .ref (mm 4), .ref (mm 5), .int 0, .int 0, .int 0, .int 0, .int 13, .int 0, .int 0, .int 0, .int 0, .int (-1), .int 0, .ref (mm 6), .int 0, .ref (mm 7), .ref (mm 8), .ref (mm 9), .int 0, .ref (mm 10), .ref (mm 11), .int 0, .int 0, .ref (mm 12), .ref (mm 13), .int 0, .ref (mm 14), .ref (mm 15), .ref (mm 16)]))] := hD
      generalize ef_25 : (upd f_18 i_17.toNatClampNeg z_24) = f_25 at hP hD
      have hf_25_0 : f_25 0 = 0 := by rw [← ef_25]; exact upd_at h_20 (fun h => by rw [ez_24, ti_cl, show i_17.toInt.toNat = 0 from by omega]; exact h_7) (by omega)
      have hf_25_7 : f_25 7 = 0 := by rw [← ef_25]; exact upd_at h_21 (fun h => by rw [ez_24, ti_cl, show i_17.toInt.toNat = 7 from by omega]; exact h_14) (by omega)
      obtain ⟨z_26, ez_26⟩ : ∃ y : Int32, y = i_17 + 1 := ⟨_, rfl⟩
      have tz_26 : z_26.toInt = i_17.toInt + 1 := by rw [ez_26]; exact ti_addc (by decide) (by omega) (by omega)
      refine lv_iinc (v := z_26) (lv' := [(2, .int z_26), (0, .ref (mm 0)), (1, .int a)]) hx hb dX8_row_139 hl (k := 0) rfl (ez_26.symm) (by decide) rfl (fun ls hl => ?_)
      refine lv_goto (tgt := 120) hx hb dX8_row_142 (by decide) ?_
      exact ih (z_26, f_25) _ _ ls (by show (409 - z_26.toInt).toNat < (409 - i_17.toInt).toNat; omega) ⟨(show 0 ≤ z_26.toInt ∧ z_26.toInt ≤ 409 from ⟨by omega, by omega⟩), hf_25_0, hf_25_7, hP.sub [0, 1, 2] rfl, hD.sub [0, 1, 2] (by decide) rfl, hS, lv_sub hl [0, 1, 2] rfl⟩
  have hr_1 := hr_1.trans (if_neg hc_2)
  obtain rfl : r_1 = 0 := hr_1
  refine lv_if_ne (tgt := 22) hx hb dX8_row_16 (by decide) (fun c9 => absurd c9 (by decide)) (fun _ => ?_)
  refine lv_bipush (v := (-3)) hx hb dX8_row_19 (by decide) ?_
  have hP9 := hP.sub (ws' := []) [] rfl
  have hD9 := hD.sub (ws' := []) [] (by decide) rfl
  exact W.iret (v := (-3)) hx hb hr (fun t ht hW => ⟨⟨(-3), (), rfl, (by (repeat' split) <;> first | rfl | (exfalso; omega)), by rw [ht]; exact hP9, hD9⟩, hS.F ht⟩) hS.2.2 dX8_row_21
set_option maxHeartbeats 4000000 in
set_option maxRecDepth 100000 in
theorem c_M_fault (l : Launch) (D : va_G) (k : Nat → ClassId) (mm : Nat → Nat) (a : Int32) (sz : Nat) : Met l yX8_fault (Cond.code yX8_fault cX8_fault 2 (some .int) :: wsL_law) ({ frames := 0, cells := 0, slots := 0, locals := 0 } : Room) (va_Pc [.ref (mm 0), .int a] (pu D k sz [((mm 0), .inr (7, [.int 0, .ref (mm 1), .ref (mm 2), .ref (mm 3), .ref (mm 4), .ref (mm 5), .int 0, .int 0, .int 0, .int 0, .int 0, .int 0, .int 0, .int 0, .int 0, .int (-1), .int 0, .ref (mm 6), .int 0, .ref (mm 7), .ref (mm 8), .ref (mm 9), .int 0, .ref (mm 10), .ref (mm 11), .int 0, .int 0, .ref (mm 12), .ref (mm 13), .int 0, .ref (mm 14), .ref (mm 15), .ref (mm 16)]))])) (va_Qi (fun rr (uu : Unit) => rr = if a.toInt = 0 then 0 else (-1)) (qu D (va_A [((mm 0), .inr (7, [.int 0, .ref (mm 1), .ref (mm 2), .ref (mm 3), .ref (mm 4), .ref (mm 5), .int 0, .int 0, .int 0, .int 0, .int 0, .int 0, .int 0, .int 0, .int 0, .int (-1), .int 0, .ref (mm 6), .int 0, .ref (mm 7), .ref (mm 8), .ref (mm 9), .int 0, .ref (mm 10), .ref (mm 11), .int 0, .int 0, .ref (mm 12), .ref (mm 13), .int 0, .ref (mm 14), .ref (mm 15), .ref (mm 16)]))] sz) (fun uu : Unit => [])) (va_A [((mm 0), .inr (7, [.int 0, .ref (mm 1), .ref (mm 2), .ref (mm 3), .ref (mm 4), .ref (mm 5), .int 0, .int 0, .int 0, .int 0, .int 0, .int 0, .int 0, .int 0, .int 0, .int (-1), .int 0, .ref (mm 6), .int 0, .ref (mm 7), .ref (mm 8), .ref (mm 9), .int 0, .ref (mm 10), .ref (mm 11), .int 0, .int 0, .ref (mm 12), .ref (mm 13), .int 0, .ref (mm 14), .ref (mm 15), .ref (mm 16)]))] sz)) 0 0 (va_A [((mm 0), .inr (7, [.int 0, .ref (mm 1), .ref (mm 2), .ref (mm 3), .ref (mm 4), .ref (mm 5), .int 0, .int 0, .int 0, .int 0, .int 0, .int 0, .int 0, .int 0, .int 0, .int (-1), .int 0, .ref (mm 6), .int 0, .ref (mm 7), .ref (mm 8), .ref (mm 9), .int 0, .ref (mm 10), .ref (mm 11), .int 0, .int 0, .ref (mm 12), .ref (mm 13), .int 0, .ref (mm 14), .ref (mm 15), .ref (mm 16)]))] sz) := by
  refine Met.ofW (cc := cX8_fault) (maxL := 2) (ret := (some .int)) (by decide) rfl ?_
  intro p e s m args below meth c s₁ B hml hv
  obtain ⟨rfl, hsz, hP, hK, hD0⟩ := hv
  have hx := B.exec
  have hb := B.bytes
  have hr := B.returns
  have hts : ∀ w ∈ wsL_law, w.before _ s = true := fun w h => atoms_spec (ws := Cond.code yX8_fault cX8_fault 2 (some .int) :: wsL_law) B.pre w (List.mem_cons_of_mem _ h)
  have hown : s.vm.findClass RX8 = some m.cls := findClass_of_methodNamed B.named
  have hlocks := B.notSynchronized
  subst hsz
  have hD := hD0.self (sz := s.heap.size)
  generalize hAe : va_A [((mm 0), .inr (7, [.int 0, .ref (mm 1), .ref (mm 2), .ref (mm 3), .ref (mm 4), .ref (mm 5), .int 0, .int 0, .int 0, .int 0, .int 0, .int 0, .int 0, .int 0, .int 0, .int (-1), .int 0, .ref (mm 6), .int 0, .ref (mm 7), .ref (mm 8), .ref (mm 9), .int 0, .ref (mm 10), .ref (mm 11), .int 0, .int 0, .ref (mm 12), .ref (mm 13), .int 0, .ref (mm 14), .ref (mm 15), .ref (mm 16)]))] s.heap.size = A at hD ⊢
  have hA : ∀ q : Nat, s.heap.size ≤ q → A q := fun q h => by rw [← hAe]; exact Or.inr h
  have hS : va_S A s.heap s.heap [] := va_S.rf
  have hP : va_P D vwCl [((mm 0), .inr (7, [.int 0, .ref (mm 1), .ref (mm 2), .ref (mm 3), .ref (mm 4), .ref (mm 5), .int 0, .int 0, .int 0, .int 0, .int 0, .int 0, .int 0, .int 0, .int 0, .int (-1), .int 0, .ref (mm 6), .int 0, .ref (mm 7), .ref (mm 8), .ref (mm 9), .int 0, .ref (mm 10), .ref (mm 11), .int 0, .int 0, .ref (mm 12), .ref (mm 13), .int 0, .ref (mm 14), .ref (mm 15), .ref (mm 16)]))] s.heap := hP
  have hl := lv_entry ([.ref (mm 0), .int a]) (n := 2) (Nat.le_of_ble_eq_true rfl)
  rw [lg_entry_eq]
  generalize (lg_sl ([.ref (mm 0), .int a]) ++ List.replicate (2 - (lg_sl ([.ref (mm 0), .int a])).length) Slot.unset).toArray = ls at hl ⊢
  have hl : lv_has ls 2 [(0, .ref (mm 0)), (1, .int a)] := hl
  refine lv_aload_n hx hb dX8_fault_0 rfl (lv_at hl 0 rfl) ?_
  refine lv_iconst (v := 0) hx hb dX8_fault_1 (by decide) ?_
  refine va_put (D := D) (ci := 7) (v := .int 0) (ty := .int) (C := RX8) (T := TX8) (N := 33) hx hb hts inlX8 tyX8 tyX8_ok nmX8 hown hK hP hD hS 0 rfl rfl 0 (by decide) (hts _ mw_125) (fun _ h9 => h9) rfl (by decide +kernel) rfl rfl (Nat.le_of_ble_eq_true rfl) dX8_fault_2 (fun H locs hP hD hS => ?_)
  have hP : va_P D vwCl [((mm 0), .inr (7, [.int 0, .ref (mm 1), .ref (mm 2), .ref (mm 3), .ref (mm 4), .ref (mm 5), .int 0, .int 0, .int 0, .int 0, .int 0, .int 0, .int 0, .int 0, .int 0, .int (-1), .int 0, .ref (mm 6), .int 0, .ref (mm 7), .ref (mm 8), .ref (mm 9), .int 0, .ref (mm 10), .ref (mm 11), .int 0, .int 0, .ref (mm 12), .ref (mm 13), .int 0, .ref (mm 14), .ref (mm 15), .ref (mm 16)]))] H := hP
  have hD : va_D A [((mm 0), .inr (7, [.int 0, .ref (mm 1), .ref (mm 2), .ref (mm 3), .ref (mm 4), .ref (mm 5), .int 0, .int 0, .int 0, .int 0, .int 0, .int 0, .int 0, .int 0, .int 0, .int (-1), .int 0, .ref (mm 6), .int 0, .ref (mm 7), .ref (mm 8), .ref (mm 9), .int 0, .ref (mm 10), .ref (mm 11), .int 0, .int 0, .ref (mm 12), .ref (mm 13), .int 0, .ref (mm 14), .ref (mm 15), .ref (mm 16)]))] := hD
  refine lv_iload_n hx hb dX8_fault_5 rfl (lv_at hl 1 rfl) ?_
  refine lv_if_ne (tgt := 16) hx hb dX8_fault_6 (by decide) (fun c_1 => ?_) (fun c_1 => ?_)
  · have c_1 : a.toInt ≠ 0 := ti_ne c_1
    refine lv_iload_n hx hb dX8_fault_16 rfl (lv_at hl 1 rfl) ?_
    refine lv_iconst (v := 1) hx hb dX8_fault_17 (by decide) ?_
    refine lv_icmp_ne (tgt := 28) hx hb dX8_fault_18 (by decide) (fun c_2 => ?_) (fun c_2 => ?_)
    · have c_2 : a.toInt ≠ 1 := ti_ne c_2
      refine lv_iconst (v := (-1)) hx hb dX8_fault_28 (by decide) ?_
      have hP9 := hP.sub (ws' := []) [] rfl
      have hD9 := hD.sub (ws' := []) [] (by decide) rfl
      exact W.iret (v := (-1)) hx hb hr (fun t ht hW => ⟨⟨(-1), (), rfl, (by (repeat' split) <;> first | rfl | (exfalso; omega)), by rw [ht]; exact hP9, hD9⟩, hS.F ht⟩) hS.2.2 dX8_fault_29
    · have c_2 : a.toInt = 1 := ti_eq c_2
      have qc_2 : a = 1 := ti_of (show a.toInt = 1 from by omega)
      refine lv_aload_n hx hb dX8_fault_21 rfl (lv_at hl 0 rfl) ?_
      refine va_get (D := D) (ci := 7) (v := .int (-1)) (C := RX8) (T := TX8) (N := 33) hx hb hts inlX8 hown hK hP 0 rfl rfl 15 (by decide) (hts _ mw_96) (fun _ h9 => h9) rfl dX8_fault_22 ?_
      refine lv_goto (tgt := 29) hx hb dX8_fault_25 (by decide) ?_
      have hP9 := hP.sub (ws' := []) [] rfl
      have hD9 := hD.sub (ws' := []) [] (by decide) rfl
      exact W.iret (v := (-1)) hx hb hr (fun t ht hW => ⟨⟨(-1), (), rfl, (by (repeat' split) <;> first | rfl | (exfalso; omega)), by rw [ht]; exact hP9, hD9⟩, hS.F ht⟩) hS.2.2 dX8_fault_29
  · have c_1 : a.toInt = 0 := ti_eq c_1
    have qc_1 : a = 0 := ti_of (show a.toInt = 0 from by omega)
    refine lv_aload_n hx hb dX8_fault_9 rfl (lv_at hl 0 rfl) ?_
    refine va_get (D := D) (ci := 7) (v := .int 0) (C := RX8) (T := TX8) (N := 33) hx hb hts inlX8 hown hK hP 0 rfl rfl 14 (by decide) (hts _ mw_291) (fun _ h9 => h9) rfl dX8_fault_10 ?_
    refine lv_goto (tgt := 29) hx hb dX8_fault_13 (by decide) ?_
    have hP9 := hP.sub (ws' := []) [] rfl
    have hD9 := hD.sub (ws' := []) [] (by decide) rfl
    exact W.iret (v := 0) hx hb hr (fun t ht hW => ⟨⟨0, (), rfl, (by (repeat' split) <;> first | rfl | (exfalso; omega)), by rw [ht]; exact hP9, hD9⟩, hS.F ht⟩) hS.2.2 dX8_fault_29
set_option maxHeartbeats 4000000 in
set_option maxRecDepth 100000 in
theorem c_M_roof (l : Launch) (D : va_G) (k : Nat → ClassId) (mm : Nat → Nat) (f : Nat → Int32) (a : Int32) (x : Int32) (sz : Nat) (hf0 : f 0 = 0) : Met l yX8_roof (Cond.code yX8_roof cX8_roof 3 (some .int) :: wsL_law) ({ frames := 2, cells := 0, slots := 0, locals := 120 } : Room) (va_Pc [.ref (mm 0), .int a, .int x] (pu D k sz [((mm 0), .inr (7, [.int 0, .ref (mm 1), .ref (mm 2), .ref (mm 3), .ref (mm 4), .ref (mm 5), .int 0, .int 0, .int 0, .int 0, .int 0, .int 0, .int 0, .int 0, .int 0, .int (-1), .int 0, .ref (mm 6), .int 0, .ref (mm 7), .ref (mm 8), .ref (mm 9), .int 0, .ref (mm 10), .ref (mm 11), .int 0, .int 0, .ref (mm 12), .ref (mm 13), .int 0, .ref (mm 14), .ref (mm 15), .ref (mm 16)])), ((mm 1), .inl (k 0, 1227, .inl f))])) (va_Qi (fun rr (uu : Unit) => rr = (-2)) (qu D (va_A [((mm 0), .inr (7, [.int 0, .ref (mm 1), .ref (mm 2), .ref (mm 3), .ref (mm 4), .ref (mm 5), .int 0, .int 0, .int 0, .int 0, .int 0, .int 0, .int 0, .int 0, .int 0, .int (-1), .int 0, .ref (mm 6), .int 0, .ref (mm 7), .ref (mm 8), .ref (mm 9), .int 0, .ref (mm 10), .ref (mm 11), .int 0, .int 0, .ref (mm 12), .ref (mm 13), .int 0, .ref (mm 14), .ref (mm 15), .ref (mm 16)])), ((mm 1), .inl (k 0, 1227, .inl f))] sz) (fun uu : Unit => [])) (va_A [((mm 0), .inr (7, [.int 0, .ref (mm 1), .ref (mm 2), .ref (mm 3), .ref (mm 4), .ref (mm 5), .int 0, .int 0, .int 0, .int 0, .int 0, .int 0, .int 0, .int 0, .int 0, .int (-1), .int 0, .ref (mm 6), .int 0, .ref (mm 7), .ref (mm 8), .ref (mm 9), .int 0, .ref (mm 10), .ref (mm 11), .int 0, .int 0, .ref (mm 12), .ref (mm 13), .int 0, .ref (mm 14), .ref (mm 15), .ref (mm 16)])), ((mm 1), .inl (k 0, 1227, .inl f))] sz)) 0 0 (va_A [((mm 0), .inr (7, [.int 0, .ref (mm 1), .ref (mm 2), .ref (mm 3), .ref (mm 4), .ref (mm 5), .int 0, .int 0, .int 0, .int 0, .int 0, .int 0, .int 0, .int 0, .int 0, .int (-1), .int 0, .ref (mm 6), .int 0, .ref (mm 7), .ref (mm 8), .ref (mm 9), .int 0, .ref (mm 10), .ref (mm 11), .int 0, .int 0, .ref (mm 12), .ref (mm 13), .int 0, .ref (mm 14), .ref (mm 15), .ref (mm 16)])), ((mm 1), .inl (k 0, 1227, .inl f))] sz) := by
  refine Met.ofW (cc := cX8_roof) (maxL := 3) (ret := (some .int)) (by decide) rfl ?_
  intro p e s m args below meth c s₁ B hml hv
  obtain ⟨rfl, hsz, hP, hK, hD0⟩ := hv
  have hx := B.exec
  have hb := B.bytes
  have hr := B.returns
  have hts : ∀ w ∈ wsL_law, w.before _ s = true := fun w h => atoms_spec (ws := Cond.code yX8_roof cX8_roof 3 (some .int) :: wsL_law) B.pre w (List.mem_cons_of_mem _ h)
  have hown : s.vm.findClass RX8 = some m.cls := findClass_of_methodNamed B.named
  have hlocks := B.notSynchronized
  subst hsz
  have hD := hD0.self (sz := s.heap.size)
  generalize hAe : va_A [((mm 0), .inr (7, [.int 0, .ref (mm 1), .ref (mm 2), .ref (mm 3), .ref (mm 4), .ref (mm 5), .int 0, .int 0, .int 0, .int 0, .int 0, .int 0, .int 0, .int 0, .int 0, .int (-1), .int 0, .ref (mm 6), .int 0, .ref (mm 7), .ref (mm 8), .ref (mm 9), .int 0, .ref (mm 10), .ref (mm 11), .int 0, .int 0, .ref (mm 12), .ref (mm 13), .int 0, .ref (mm 14), .ref (mm 15), .ref (mm 16)])), ((mm 1), .inl (k 0, 1227, .inl f))] s.heap.size = A at hD ⊢
  have hA : ∀ q : Nat, s.heap.size ≤ q → A q := fun q h => by rw [← hAe]; exact Or.inr h
  have hS : va_S A s.heap s.heap [] := va_S.rf
  have hP : va_P D vwCl [((mm 0), .inr (7, [.int 0, .ref (mm 1), .ref (mm 2), .ref (mm 3), .ref (mm 4), .ref (mm 5), .int 0, .int 0, .int 0, .int 0, .int 0, .int 0, .int 0, .int 0, .int 0, .int (-1), .int 0, .ref (mm 6), .int 0, .ref (mm 7), .ref (mm 8), .ref (mm 9), .int 0, .ref (mm 10), .ref (mm 11), .int 0, .int 0, .ref (mm 12), .ref (mm 13), .int 0, .ref (mm 14), .ref (mm 15), .ref (mm 16)])), ((mm 1), .inl (k 0, 1227, .inl f))] s.heap := hP
  have hl := lv_entry ([.ref (mm 0), .int a, .int x]) (n := 3) (Nat.le_of_ble_eq_true rfl)
  rw [lg_entry_eq]
  generalize (lg_sl ([.ref (mm 0), .int a, .int x]) ++ List.replicate (3 - (lg_sl ([.ref (mm 0), .int a, .int x])).length) Slot.unset).toArray = ls at hl ⊢
  have hl : lv_has ls 3 [(0, .ref (mm 0)), (1, .int a), (2, .int x)] := hl
  refine lv_aload_n hx hb dX8_roof_0 rfl (lv_at hl 0 rfl) ?_
  refine lv_iconst (v := 0) hx hb dX8_roof_1 (by decide) ?_
  refine va_put (D := D) (ci := 7) (v := .int 0) (ty := .int) (C := RX8) (T := TX8) (N := 33) hx hb hts inlX8 tyX8 tyX8_ok nmX8 hown hK hP hD hS 0 rfl rfl 0 (by decide) (hts _ mw_125) (fun _ h9 => h9) rfl (by decide +kernel) rfl rfl (Nat.le_of_ble_eq_true rfl) dX8_roof_2 (fun H locs hP hD hS => ?_)
  have hP : va_P D vwCl [((mm 0), .inr (7, [.int 0, .ref (mm 1), .ref (mm 2), .ref (mm 3), .ref (mm 4), .ref (mm 5), .int 0, .int 0, .int 0, .int 0, .int 0, .int 0, .int 0, .int 0, .int 0, .int (-1), .int 0, .ref (mm 6), .int 0, .ref (mm 7), .ref (mm 8), .ref (mm 9), .int 0, .ref (mm 10), .ref (mm 11), .int 0, .int 0, .ref (mm 12), .ref (mm 13), .int 0, .ref (mm 14), .ref (mm 15), .ref (mm 16)])), ((mm 1), .inl (k 0, 1227, .inl f))] H := hP
  have hD : va_D A [((mm 0), .inr (7, [.int 0, .ref (mm 1), .ref (mm 2), .ref (mm 3), .ref (mm 4), .ref (mm 5), .int 0, .int 0, .int 0, .int 0, .int 0, .int 0, .int 0, .int 0, .int 0, .int (-1), .int 0, .ref (mm 6), .int 0, .ref (mm 7), .ref (mm 8), .ref (mm 9), .int 0, .ref (mm 10), .ref (mm 11), .int 0, .int 0, .ref (mm 12), .ref (mm 13), .int 0, .ref (mm 14), .ref (mm 15), .ref (mm 16)])), ((mm 1), .inl (k 0, 1227, .inl f))] := hD
  refine lv_aload_n hx hb dX8_roof_5 rfl (lv_at hl 0 rfl) ?_
  refine lv_iload_n hx hb dX8_roof_6 rfl (lv_at hl 1 rfl) ?_
  refine kV_i (q0 := 0) (As := [.int a]) (rest := []) (cs := [((mm 0), .inr (7, [.int 0, .ref (mm 1), .ref (mm 2), .ref (mm 3), .ref (mm 4), .ref (mm 5), .int 0, .int 0, .int 0, .int 0, .int 0, .int 0, .int 0, .int 0, .int 0, .int (-1), .int 0, .ref (mm 6), .int 0, .ref (mm 7), .ref (mm 8), .ref (mm 9), .int 0, .ref (mm 10), .ref (mm 11), .int 0, .int 0, .ref (mm 12), .ref (mm 13), .int 0, .ref (mm 14), .ref (mm 15), .ref (mm 16)])), ((mm 1), .inl (k 0, 1227, .inl f))]) ⟨hx, hb, hml, hown, hts⟩ (c_M_isRoof l D k _ 0 f a hf0) (gV mw_409 mw_410 mw_411 mw_5 mw_412) hd_yX8_isRoof rfl rfl ⟨Nat.le_of_ble_eq_true rfl, Nat.le_of_ble_eq_true rfl⟩ hK (hP.sub (ws' := [((mm 0), .inr (7, [.int 0, .ref (mm 1), .ref (mm 2), .ref (mm 3), .ref (mm 4), .ref (mm 5), .int 0, .int 0, .int 0, .int 0, .int 0, .int 0, .int 0, .int 0, .int 0, .int (-1), .int 0, .ref (mm 6), .int 0, .ref (mm 7), .ref (mm 8), .ref (mm 9), .int 0, .ref (mm 10), .ref (mm 11), .int 0, .int 0, .ref (mm 12), .ref (mm 13), .int 0, .ref (mm 14), .ref (mm 15), .ref (mm 16)])), ((mm 1), .inl (k 0, 1227, .inl f))]) [0, 1] rfl) rfl rfl rfl rfl hl.1 rfl (Nat.le_of_ble_eq_true rfl) dX8_roof_7 ⟨Nat.le_of_ble_eq_true rfl, Nat.le_of_ble_eq_true rfl⟩ (fun r_1 hr_1 => ?_)
  obtain rfl : r_1 = 0 := hr_1
  refine lv_if_ne (tgt := 16) hx hb dX8_roof_10 (by decide) (fun c9 => absurd c9 (by decide)) (fun _ => ?_)
  refine lv_bipush (v := (-2)) hx hb dX8_roof_13 (by decide) ?_
  have hP9 := hP.sub (ws' := []) [] rfl
  have hD9 := hD.sub (ws' := []) [] (by decide) rfl
  exact W.iret (v := (-2)) hx hb hr (fun t ht hW => ⟨⟨(-2), (), rfl, rfl, by rw [ht]; exact hP9, hD9⟩, hS.F ht⟩) hS.2.2 dX8_roof_15
set_option maxHeartbeats 4000000 in
set_option maxRecDepth 100000 in
theorem c_M_layer (l : Launch) (D : va_G) (k : Nat → ClassId) (mm : Nat → Nat) (f : Nat → Int32) (a : Int32) (x : Int32) (z : Int32) (sz : Nat) (hf0 : f 0 = 0) : Met l yX8_layer (Cond.code yX8_layer cX8_layer 5 (some .int) :: wsL_law) ({ frames := 2, cells := 0, slots := 0, locals := 120 } : Room) (va_Pc [.ref (mm 0), .int a, .int x, .int z] (pu D k sz [((mm 0), .inr (7, [.int 0, .ref (mm 1), .ref (mm 2), .ref (mm 3), .ref (mm 4), .ref (mm 5), .int 0, .int 0, .int 0, .int 0, .int 0, .int 0, .int 0, .int 0, .int 0, .int (-1), .int 0, .ref (mm 6), .int 0, .ref (mm 7), .ref (mm 8), .ref (mm 9), .int 0, .ref (mm 10), .ref (mm 11), .int 0, .int 0, .ref (mm 12), .ref (mm 13), .int 0, .ref (mm 14), .ref (mm 15), .ref (mm 16)])), ((mm 1), .inl (k 0, 1227, .inl f))])) (va_Qi (fun rr (uu : Unit) => rr = (-2)) (qu D (va_A [((mm 0), .inr (7, [.int 0, .ref (mm 1), .ref (mm 2), .ref (mm 3), .ref (mm 4), .ref (mm 5), .int 0, .int 0, .int 0, .int 0, .int 0, .int 0, .int 0, .int 0, .int 0, .int (-1), .int 0, .ref (mm 6), .int 0, .ref (mm 7), .ref (mm 8), .ref (mm 9), .int 0, .ref (mm 10), .ref (mm 11), .int 0, .int 0, .ref (mm 12), .ref (mm 13), .int 0, .ref (mm 14), .ref (mm 15), .ref (mm 16)])), ((mm 1), .inl (k 0, 1227, .inl f))] sz) (fun uu : Unit => [])) (va_A [((mm 0), .inr (7, [.int 0, .ref (mm 1), .ref (mm 2), .ref (mm 3), .ref (mm 4), .ref (mm 5), .int 0, .int 0, .int 0, .int 0, .int 0, .int 0, .int 0, .int 0, .int 0, .int (-1), .int 0, .ref (mm 6), .int 0, .ref (mm 7), .ref (mm 8), .ref (mm 9), .int 0, .ref (mm 10), .ref (mm 11), .int 0, .int 0, .ref (mm 12), .ref (mm 13), .int 0, .ref (mm 14), .ref (mm 15), .ref (mm 16)])), ((mm 1), .inl (k 0, 1227, .inl f))] sz)) 0 0 (va_A [((mm 0), .inr (7, [.int 0, .ref (mm 1), .ref (mm 2), .ref (mm 3), .ref (mm 4), .ref (mm 5), .int 0, .int 0, .int 0, .int 0, .int 0, .int 0, .int 0, .int 0, .int 0, .int (-1), .int 0, .ref (mm 6), .int 0, .ref (mm 7), .ref (mm 8), .ref (mm 9), .int 0, .ref (mm 10), .ref (mm 11), .int 0, .int 0, .ref (mm 12), .ref (mm 13), .int 0, .ref (mm 14), .ref (mm 15), .ref (mm 16)])), ((mm 1), .inl (k 0, 1227, .inl f))] sz) := by
  refine Met.ofW (cc := cX8_layer) (maxL := 5) (ret := (some .int)) (by decide) rfl ?_
  intro p e s m args below meth c s₁ B hml hv
  obtain ⟨rfl, hsz, hP, hK, hD0⟩ := hv
  have hx := B.exec
  have hb := B.bytes
  have hr := B.returns
  have hts : ∀ w ∈ wsL_law, w.before _ s = true := fun w h => atoms_spec (ws := Cond.code yX8_layer cX8_layer 5 (some .int) :: wsL_law) B.pre w (List.mem_cons_of_mem _ h)
  have hown : s.vm.findClass RX8 = some m.cls := findClass_of_methodNamed B.named
  have hlocks := B.notSynchronized
  subst hsz
  have hD := hD0.self (sz := s.heap.size)
  generalize hAe : va_A [((mm 0), .inr (7, [.int 0, .ref (mm 1), .ref (mm 2), .ref (mm 3), .ref (mm 4), .ref (mm 5), .int 0, .int 0, .int 0, .int 0, .int 0, .int 0, .int 0, .int 0, .int 0, .int (-1), .int 0, .ref (mm 6), .int 0, .ref (mm 7), .ref (mm 8), .ref (mm 9), .int 0, .ref (mm 10), .ref (mm 11), .int 0, .int 0, .ref (mm 12), .ref (mm 13), .int 0, .ref (mm 14), .ref (mm 15), .ref (mm 16)])), ((mm 1), .inl (k 0, 1227, .inl f))] s.heap.size = A at hD ⊢
  have hA : ∀ q : Nat, s.heap.size ≤ q → A q := fun q h => by rw [← hAe]; exact Or.inr h
  have hS : va_S A s.heap s.heap [] := va_S.rf
  have hP : va_P D vwCl [((mm 0), .inr (7, [.int 0, .ref (mm 1), .ref (mm 2), .ref (mm 3), .ref (mm 4), .ref (mm 5), .int 0, .int 0, .int 0, .int 0, .int 0, .int 0, .int 0, .int 0, .int 0, .int (-1), .int 0, .ref (mm 6), .int 0, .ref (mm 7), .ref (mm 8), .ref (mm 9), .int 0, .ref (mm 10), .ref (mm 11), .int 0, .int 0, .ref (mm 12), .ref (mm 13), .int 0, .ref (mm 14), .ref (mm 15), .ref (mm 16)])), ((mm 1), .inl (k 0, 1227, .inl f))] s.heap := hP
  have hl := lv_entry ([.ref (mm 0), .int a, .int x, .int z]) (n := 5) (Nat.le_of_ble_eq_true rfl)
  rw [lg_entry_eq]
  generalize (lg_sl ([.ref (mm 0), .int a, .int x, .int z]) ++ List.replicate (5 - (lg_sl ([.ref (mm 0), .int a, .int x, .int z])).length) Slot.unset).toArray = ls at hl ⊢
  have hl : lv_has ls 5 [(0, .ref (mm 0)), (1, .int a), (2, .int x), (3, .int z)] := hl
  refine lv_aload_n hx hb dX8_layer_0 rfl (lv_at hl 0 rfl) ?_
  refine lv_iconst (v := 0) hx hb dX8_layer_1 (by decide) ?_
  refine va_put (D := D) (ci := 7) (v := .int 0) (ty := .int) (C := RX8) (T := TX8) (N := 33) hx hb hts inlX8 tyX8 tyX8_ok nmX8 hown hK hP hD hS 0 rfl rfl 0 (by decide) (hts _ mw_125) (fun _ h9 => h9) rfl (by decide +kernel) rfl rfl (Nat.le_of_ble_eq_true rfl) dX8_layer_2 (fun H locs hP hD hS => ?_)
  have hP : va_P D vwCl [((mm 0), .inr (7, [.int 0, .ref (mm 1), .ref (mm 2), .ref (mm 3), .ref (mm 4), .ref (mm 5), .int 0, .int 0, .int 0, .int 0, .int 0, .int 0, .int 0, .int 0, .int 0, .int (-1), .int 0, .ref (mm 6), .int 0, .ref (mm 7), .ref (mm 8), .ref (mm 9), .int 0, .ref (mm 10), .ref (mm 11), .int 0, .int 0, .ref (mm 12), .ref (mm 13), .int 0, .ref (mm 14), .ref (mm 15), .ref (mm 16)])), ((mm 1), .inl (k 0, 1227, .inl f))] H := hP
  have hD : va_D A [((mm 0), .inr (7, [.int 0, .ref (mm 1), .ref (mm 2), .ref (mm 3), .ref (mm 4), .ref (mm 5), .int 0, .int 0, .int 0, .int 0, .int 0, .int 0, .int 0, .int 0, .int 0, .int (-1), .int 0, .ref (mm 6), .int 0, .ref (mm 7), .ref (mm 8), .ref (mm 9), .int 0, .ref (mm 10), .ref (mm 11), .int 0, .int 0, .ref (mm 12), .ref (mm 13), .int 0, .ref (mm 14), .ref (mm 15), .ref (mm 16)])), ((mm 1), .inl (k 0, 1227, .inl f))] := hD
  refine lv_aload_n hx hb dX8_layer_5 rfl (lv_at hl 0 rfl) ?_
  refine lv_iload_n hx hb dX8_layer_6 rfl (lv_at hl 1 rfl) ?_
  refine kV_i (q0 := 0) (As := [.int a]) (rest := []) (cs := [((mm 0), .inr (7, [.int 0, .ref (mm 1), .ref (mm 2), .ref (mm 3), .ref (mm 4), .ref (mm 5), .int 0, .int 0, .int 0, .int 0, .int 0, .int 0, .int 0, .int 0, .int 0, .int (-1), .int 0, .ref (mm 6), .int 0, .ref (mm 7), .ref (mm 8), .ref (mm 9), .int 0, .ref (mm 10), .ref (mm 11), .int 0, .int 0, .ref (mm 12), .ref (mm 13), .int 0, .ref (mm 14), .ref (mm 15), .ref (mm 16)])), ((mm 1), .inl (k 0, 1227, .inl f))]) ⟨hx, hb, hml, hown, hts⟩ (c_M_isRoof l D k _ 0 f a hf0) (gV mw_409 mw_410 mw_411 mw_5 mw_412) hd_yX8_isRoof rfl rfl ⟨Nat.le_of_ble_eq_true rfl, Nat.le_of_ble_eq_true rfl⟩ hK (hP.sub (ws' := [((mm 0), .inr (7, [.int 0, .ref (mm 1), .ref (mm 2), .ref (mm 3), .ref (mm 4), .ref (mm 5), .int 0, .int 0, .int 0, .int 0, .int 0, .int 0, .int 0, .int 0, .int 0, .int (-1), .int 0, .ref (mm 6), .int 0, .ref (mm 7), .ref (mm 8), .ref (mm 9), .int 0, .ref (mm 10), .ref (mm 11), .int 0, .int 0, .ref (mm 12), .ref (mm 13), .int 0, .ref (mm 14), .ref (mm 15), .ref (mm 16)])), ((mm 1), .inl (k 0, 1227, .inl f))]) [0, 1] rfl) rfl rfl rfl rfl hl.1 rfl (Nat.le_of_ble_eq_true rfl) dX8_layer_7 ⟨Nat.le_of_ble_eq_true rfl, Nat.le_of_ble_eq_true rfl⟩ (fun r_1 hr_1 => ?_)
  obtain rfl : r_1 = 0 := hr_1
  refine lv_if_eq (tgt := 25) hx hb dX8_layer_10 (by decide) (fun _ => ?_) (fun c9 => absurd c9 (by decide))
  refine lv_bipush (v := (-2)) hx hb dX8_layer_25 (by decide) ?_
  have hP9 := hP.sub (ws' := []) [] rfl
  have hD9 := hD.sub (ws' := []) [] (by decide) rfl
  exact W.iret (v := (-2)) hx hb hr (fun t ht hW => ⟨⟨(-2), (), rfl, rfl, by rw [ht]; exact hP9, hD9⟩, hS.F ht⟩) hS.2.2 dX8_layer_27
set_option maxHeartbeats 4000000 in
set_option maxRecDepth 100000 in
theorem c_M_leaksIn (l : Launch) (D : va_G) (k : Nat → ClassId) (mm : Nat → Nat) (f : Nat → Int32) (a : Int32) (sz : Nat) (hf0 : f 0 = 0) : Met l yX8_leaksIn (Cond.code yX8_leaksIn cX8_leaksIn 3 (some .int) :: wsL_law) ({ frames := 2, cells := 0, slots := 0, locals := 120 } : Room) (va_Pc [.ref (mm 0), .int a] (pu D k sz [((mm 0), .inr (7, [.int 0, .ref (mm 1), .ref (mm 2), .ref (mm 3), .ref (mm 4), .ref (mm 5), .int 0, .int 0, .int 0, .int 0, .int 0, .int 0, .int 0, .int 0, .int 0, .int (-1), .int 0, .ref (mm 6), .int 0, .ref (mm 7), .ref (mm 8), .ref (mm 9), .int 0, .ref (mm 10), .ref (mm 11), .int 0, .int 0, .ref (mm 12), .ref (mm 13), .int 0, .ref (mm 14), .ref (mm 15), .ref (mm 16)])), ((mm 1), .inl (k 0, 1227, .inl f))])) (va_Qi (fun rr (uu : Unit) => rr = (-2)) (qu D (va_A [((mm 0), .inr (7, [.int 0, .ref (mm 1), .ref (mm 2), .ref (mm 3), .ref (mm 4), .ref (mm 5), .int 0, .int 0, .int 0, .int 0, .int 0, .int 0, .int 0, .int 0, .int 0, .int (-1), .int 0, .ref (mm 6), .int 0, .ref (mm 7), .ref (mm 8), .ref (mm 9), .int 0, .ref (mm 10), .ref (mm 11), .int 0, .int 0, .ref (mm 12), .ref (mm 13), .int 0, .ref (mm 14), .ref (mm 15), .ref (mm 16)])), ((mm 1), .inl (k 0, 1227, .inl f))] sz) (fun uu : Unit => [])) (va_A [((mm 0), .inr (7, [.int 0, .ref (mm 1), .ref (mm 2), .ref (mm 3), .ref (mm 4), .ref (mm 5), .int 0, .int 0, .int 0, .int 0, .int 0, .int 0, .int 0, .int 0, .int 0, .int (-1), .int 0, .ref (mm 6), .int 0, .ref (mm 7), .ref (mm 8), .ref (mm 9), .int 0, .ref (mm 10), .ref (mm 11), .int 0, .int 0, .ref (mm 12), .ref (mm 13), .int 0, .ref (mm 14), .ref (mm 15), .ref (mm 16)])), ((mm 1), .inl (k 0, 1227, .inl f))] sz)) 0 0 (va_A [((mm 0), .inr (7, [.int 0, .ref (mm 1), .ref (mm 2), .ref (mm 3), .ref (mm 4), .ref (mm 5), .int 0, .int 0, .int 0, .int 0, .int 0, .int 0, .int 0, .int 0, .int 0, .int (-1), .int 0, .ref (mm 6), .int 0, .ref (mm 7), .ref (mm 8), .ref (mm 9), .int 0, .ref (mm 10), .ref (mm 11), .int 0, .int 0, .ref (mm 12), .ref (mm 13), .int 0, .ref (mm 14), .ref (mm 15), .ref (mm 16)])), ((mm 1), .inl (k 0, 1227, .inl f))] sz) := by
  refine Met.ofW (cc := cX8_leaksIn) (maxL := 3) (ret := (some .int)) (by decide) rfl ?_
  intro p e s m args below meth c s₁ B hml hv
  obtain ⟨rfl, hsz, hP, hK, hD0⟩ := hv
  have hx := B.exec
  have hb := B.bytes
  have hr := B.returns
  have hts : ∀ w ∈ wsL_law, w.before _ s = true := fun w h => atoms_spec (ws := Cond.code yX8_leaksIn cX8_leaksIn 3 (some .int) :: wsL_law) B.pre w (List.mem_cons_of_mem _ h)
  have hown : s.vm.findClass RX8 = some m.cls := findClass_of_methodNamed B.named
  have hlocks := B.notSynchronized
  subst hsz
  have hD := hD0.self (sz := s.heap.size)
  generalize hAe : va_A [((mm 0), .inr (7, [.int 0, .ref (mm 1), .ref (mm 2), .ref (mm 3), .ref (mm 4), .ref (mm 5), .int 0, .int 0, .int 0, .int 0, .int 0, .int 0, .int 0, .int 0, .int 0, .int (-1), .int 0, .ref (mm 6), .int 0, .ref (mm 7), .ref (mm 8), .ref (mm 9), .int 0, .ref (mm 10), .ref (mm 11), .int 0, .int 0, .ref (mm 12), .ref (mm 13), .int 0, .ref (mm 14), .ref (mm 15), .ref (mm 16)])), ((mm 1), .inl (k 0, 1227, .inl f))] s.heap.size = A at hD ⊢
  have hA : ∀ q : Nat, s.heap.size ≤ q → A q := fun q h => by rw [← hAe]; exact Or.inr h
  have hS : va_S A s.heap s.heap [] := va_S.rf
  have hP : va_P D vwCl [((mm 0), .inr (7, [.int 0, .ref (mm 1), .ref (mm 2), .ref (mm 3), .ref (mm 4), .ref (mm 5), .int 0, .int 0, .int 0, .int 0, .int 0, .int 0, .int 0, .int 0, .int 0, .int (-1), .int 0, .ref (mm 6), .int 0, .ref (mm 7), .ref (mm 8), .ref (mm 9), .int 0, .ref (mm 10), .ref (mm 11), .int 0, .int 0, .ref (mm 12), .ref (mm 13), .int 0, .ref (mm 14), .ref (mm 15), .ref (mm 16)])), ((mm 1), .inl (k 0, 1227, .inl f))] s.heap := hP
  have hl := lv_entry ([.ref (mm 0), .int a]) (n := 3) (Nat.le_of_ble_eq_true rfl)
  rw [lg_entry_eq]
  generalize (lg_sl ([.ref (mm 0), .int a]) ++ List.replicate (3 - (lg_sl ([.ref (mm 0), .int a])).length) Slot.unset).toArray = ls at hl ⊢
  have hl : lv_has ls 3 [(0, .ref (mm 0)), (1, .int a)] := hl
  refine lv_aload_n hx hb dX8_leaksIn_0 rfl (lv_at hl 0 rfl) ?_
  refine lv_iconst (v := 0) hx hb dX8_leaksIn_1 (by decide) ?_
  refine va_put (D := D) (ci := 7) (v := .int 0) (ty := .int) (C := RX8) (T := TX8) (N := 33) hx hb hts inlX8 tyX8 tyX8_ok nmX8 hown hK hP hD hS 0 rfl rfl 0 (by decide) (hts _ mw_125) (fun _ h9 => h9) rfl (by decide +kernel) rfl rfl (Nat.le_of_ble_eq_true rfl) dX8_leaksIn_2 (fun H locs hP hD hS => ?_)
  have hP : va_P D vwCl [((mm 0), .inr (7, [.int 0, .ref (mm 1), .ref (mm 2), .ref (mm 3), .ref (mm 4), .ref (mm 5), .int 0, .int 0, .int 0, .int 0, .int 0, .int 0, .int 0, .int 0, .int 0, .int (-1), .int 0, .ref (mm 6), .int 0, .ref (mm 7), .ref (mm 8), .ref (mm 9), .int 0, .ref (mm 10), .ref (mm 11), .int 0, .int 0, .ref (mm 12), .ref (mm 13), .int 0, .ref (mm 14), .ref (mm 15), .ref (mm 16)])), ((mm 1), .inl (k 0, 1227, .inl f))] H := hP
  have hD : va_D A [((mm 0), .inr (7, [.int 0, .ref (mm 1), .ref (mm 2), .ref (mm 3), .ref (mm 4), .ref (mm 5), .int 0, .int 0, .int 0, .int 0, .int 0, .int 0, .int 0, .int 0, .int 0, .int (-1), .int 0, .ref (mm 6), .int 0, .ref (mm 7), .ref (mm 8), .ref (mm 9), .int 0, .ref (mm 10), .ref (mm 11), .int 0, .int 0, .ref (mm 12), .ref (mm 13), .int 0, .ref (mm 14), .ref (mm 15), .ref (mm 16)])), ((mm 1), .inl (k 0, 1227, .inl f))] := hD
  refine lv_aload_n hx hb dX8_leaksIn_5 rfl (lv_at hl 0 rfl) ?_
  refine lv_iload_n hx hb dX8_leaksIn_6 rfl (lv_at hl 1 rfl) ?_
  refine kV_i (q0 := 0) (As := [.int a]) (rest := []) (cs := [((mm 0), .inr (7, [.int 0, .ref (mm 1), .ref (mm 2), .ref (mm 3), .ref (mm 4), .ref (mm 5), .int 0, .int 0, .int 0, .int 0, .int 0, .int 0, .int 0, .int 0, .int 0, .int (-1), .int 0, .ref (mm 6), .int 0, .ref (mm 7), .ref (mm 8), .ref (mm 9), .int 0, .ref (mm 10), .ref (mm 11), .int 0, .int 0, .ref (mm 12), .ref (mm 13), .int 0, .ref (mm 14), .ref (mm 15), .ref (mm 16)])), ((mm 1), .inl (k 0, 1227, .inl f))]) ⟨hx, hb, hml, hown, hts⟩ (c_M_isRoof l D k _ 0 f a hf0) (gV mw_409 mw_410 mw_411 mw_5 mw_412) hd_yX8_isRoof rfl rfl ⟨Nat.le_of_ble_eq_true rfl, Nat.le_of_ble_eq_true rfl⟩ hK (hP.sub (ws' := [((mm 0), .inr (7, [.int 0, .ref (mm 1), .ref (mm 2), .ref (mm 3), .ref (mm 4), .ref (mm 5), .int 0, .int 0, .int 0, .int 0, .int 0, .int 0, .int 0, .int 0, .int 0, .int (-1), .int 0, .ref (mm 6), .int 0, .ref (mm 7), .ref (mm 8), .ref (mm 9), .int 0, .ref (mm 10), .ref (mm 11), .int 0, .int 0, .ref (mm 12), .ref (mm 13), .int 0, .ref (mm 14), .ref (mm 15), .ref (mm 16)])), ((mm 1), .inl (k 0, 1227, .inl f))]) [0, 1] rfl) rfl rfl rfl rfl hl.1 rfl (Nat.le_of_ble_eq_true rfl) dX8_leaksIn_7 ⟨Nat.le_of_ble_eq_true rfl, Nat.le_of_ble_eq_true rfl⟩ (fun r_1 hr_1 => ?_)
  obtain rfl : r_1 = 0 := hr_1
  refine lv_if_ne (tgt := 16) hx hb dX8_leaksIn_10 (by decide) (fun c9 => absurd c9 (by decide)) (fun _ => ?_)
  refine lv_bipush (v := (-2)) hx hb dX8_leaksIn_13 (by decide) ?_
  have hP9 := hP.sub (ws' := []) [] rfl
  have hD9 := hD.sub (ws' := []) [] (by decide) rfl
  exact W.iret (v := (-2)) hx hb hr (fun t ht hW => ⟨⟨(-2), (), rfl, rfl, by rw [ht]; exact hP9, hD9⟩, hS.F ht⟩) hS.2.2 dX8_leaksIn_15
set_option maxHeartbeats 4000000 in
set_option maxRecDepth 100000 in
theorem c_M_spread (l : Launch) (D : va_G) (k : Nat → ClassId) (mm : Nat → Nat) (f : Nat → Int32) (a : Int32) (sz : Nat) (hf0 : f 0 = 0) : Met l yX8_spread (Cond.code yX8_spread cX8_spread 4 (some .int) :: wsL_law) ({ frames := 2, cells := 0, slots := 0, locals := 120 } : Room) (va_Pc [.ref (mm 0), .int a] (pu D k sz [((mm 0), .inr (7, [.int 0, .ref (mm 1), .ref (mm 2), .ref (mm 3), .ref (mm 4), .ref (mm 5), .int 0, .int 0, .int 0, .int 0, .int 0, .int 0, .int 0, .int 0, .int 0, .int (-1), .int 0, .ref (mm 6), .int 0, .ref (mm 7), .ref (mm 8), .ref (mm 9), .int 0, .ref (mm 10), .ref (mm 11), .int 0, .int 0, .ref (mm 12), .ref (mm 13), .int 0, .ref (mm 14), .ref (mm 15), .ref (mm 16)])), ((mm 1), .inl (k 0, 1227, .inl f))])) (va_Qi (fun rr (uu : Unit) => rr = (-2)) (qu D (va_A [((mm 0), .inr (7, [.int 0, .ref (mm 1), .ref (mm 2), .ref (mm 3), .ref (mm 4), .ref (mm 5), .int 0, .int 0, .int 0, .int 0, .int 0, .int 0, .int 0, .int 0, .int 0, .int (-1), .int 0, .ref (mm 6), .int 0, .ref (mm 7), .ref (mm 8), .ref (mm 9), .int 0, .ref (mm 10), .ref (mm 11), .int 0, .int 0, .ref (mm 12), .ref (mm 13), .int 0, .ref (mm 14), .ref (mm 15), .ref (mm 16)])), ((mm 1), .inl (k 0, 1227, .inl f))] sz) (fun uu : Unit => [])) (va_A [((mm 0), .inr (7, [.int 0, .ref (mm 1), .ref (mm 2), .ref (mm 3), .ref (mm 4), .ref (mm 5), .int 0, .int 0, .int 0, .int 0, .int 0, .int 0, .int 0, .int 0, .int 0, .int (-1), .int 0, .ref (mm 6), .int 0, .ref (mm 7), .ref (mm 8), .ref (mm 9), .int 0, .ref (mm 10), .ref (mm 11), .int 0, .int 0, .ref (mm 12), .ref (mm 13), .int 0, .ref (mm 14), .ref (mm 15), .ref (mm 16)])), ((mm 1), .inl (k 0, 1227, .inl f))] sz)) 0 0 (va_A [((mm 0), .inr (7, [.int 0, .ref (mm 1), .ref (mm 2), .ref (mm 3), .ref (mm 4), .ref (mm 5), .int 0, .int 0, .int 0, .int 0, .int 0, .int 0, .int 0, .int 0, .int 0, .int (-1), .int 0, .ref (mm 6), .int 0, .ref (mm 7), .ref (mm 8), .ref (mm 9), .int 0, .ref (mm 10), .ref (mm 11), .int 0, .int 0, .ref (mm 12), .ref (mm 13), .int 0, .ref (mm 14), .ref (mm 15), .ref (mm 16)])), ((mm 1), .inl (k 0, 1227, .inl f))] sz) := by
  refine Met.ofW (cc := cX8_spread) (maxL := 4) (ret := (some .int)) (by decide) rfl ?_
  intro p e s m args below meth c s₁ B hml hv
  obtain ⟨rfl, hsz, hP, hK, hD0⟩ := hv
  have hx := B.exec
  have hb := B.bytes
  have hr := B.returns
  have hts : ∀ w ∈ wsL_law, w.before _ s = true := fun w h => atoms_spec (ws := Cond.code yX8_spread cX8_spread 4 (some .int) :: wsL_law) B.pre w (List.mem_cons_of_mem _ h)
  have hown : s.vm.findClass RX8 = some m.cls := findClass_of_methodNamed B.named
  have hlocks := B.notSynchronized
  subst hsz
  have hD := hD0.self (sz := s.heap.size)
  generalize hAe : va_A [((mm 0), .inr (7, [.int 0, .ref (mm 1), .ref (mm 2), .ref (mm 3), .ref (mm 4), .ref (mm 5), .int 0, .int 0, .int 0, .int 0, .int 0, .int 0, .int 0, .int 0, .int 0, .int (-1), .int 0, .ref (mm 6), .int 0, .ref (mm 7), .ref (mm 8), .ref (mm 9), .int 0, .ref (mm 10), .ref (mm 11), .int 0, .int 0, .ref (mm 12), .ref (mm 13), .int 0, .ref (mm 14), .ref (mm 15), .ref (mm 16)])), ((mm 1), .inl (k 0, 1227, .inl f))] s.heap.size = A at hD ⊢
  have hA : ∀ q : Nat, s.heap.size ≤ q → A q := fun q h => by rw [← hAe]; exact Or.inr h
  have hS : va_S A s.heap s.heap [] := va_S.rf
  have hP : va_P D vwCl [((mm 0), .inr (7, [.int 0, .ref (mm 1), .ref (mm 2), .ref (mm 3), .ref (mm 4), .ref (mm 5), .int 0, .int 0, .int 0, .int 0, .int 0, .int 0, .int 0, .int 0, .int 0, .int (-1), .int 0, .ref (mm 6), .int 0, .ref (mm 7), .ref (mm 8), .ref (mm 9), .int 0, .ref (mm 10), .ref (mm 11), .int 0, .int 0, .ref (mm 12), .ref (mm 13), .int 0, .ref (mm 14), .ref (mm 15), .ref (mm 16)])), ((mm 1), .inl (k 0, 1227, .inl f))] s.heap := hP
  have hl := lv_entry ([.ref (mm 0), .int a]) (n := 4) (Nat.le_of_ble_eq_true rfl)
  rw [lg_entry_eq]
  generalize (lg_sl ([.ref (mm 0), .int a]) ++ List.replicate (4 - (lg_sl ([.ref (mm 0), .int a])).length) Slot.unset).toArray = ls at hl ⊢
  have hl : lv_has ls 4 [(0, .ref (mm 0)), (1, .int a)] := hl
  refine lv_aload_n hx hb dX8_spread_0 rfl (lv_at hl 0 rfl) ?_
  refine lv_iconst (v := 0) hx hb dX8_spread_1 (by decide) ?_
  refine va_put (D := D) (ci := 7) (v := .int 0) (ty := .int) (C := RX8) (T := TX8) (N := 33) hx hb hts inlX8 tyX8 tyX8_ok nmX8 hown hK hP hD hS 0 rfl rfl 0 (by decide) (hts _ mw_125) (fun _ h9 => h9) rfl (by decide +kernel) rfl rfl (Nat.le_of_ble_eq_true rfl) dX8_spread_2 (fun H locs hP hD hS => ?_)
  have hP : va_P D vwCl [((mm 0), .inr (7, [.int 0, .ref (mm 1), .ref (mm 2), .ref (mm 3), .ref (mm 4), .ref (mm 5), .int 0, .int 0, .int 0, .int 0, .int 0, .int 0, .int 0, .int 0, .int 0, .int (-1), .int 0, .ref (mm 6), .int 0, .ref (mm 7), .ref (mm 8), .ref (mm 9), .int 0, .ref (mm 10), .ref (mm 11), .int 0, .int 0, .ref (mm 12), .ref (mm 13), .int 0, .ref (mm 14), .ref (mm 15), .ref (mm 16)])), ((mm 1), .inl (k 0, 1227, .inl f))] H := hP
  have hD : va_D A [((mm 0), .inr (7, [.int 0, .ref (mm 1), .ref (mm 2), .ref (mm 3), .ref (mm 4), .ref (mm 5), .int 0, .int 0, .int 0, .int 0, .int 0, .int 0, .int 0, .int 0, .int 0, .int (-1), .int 0, .ref (mm 6), .int 0, .ref (mm 7), .ref (mm 8), .ref (mm 9), .int 0, .ref (mm 10), .ref (mm 11), .int 0, .int 0, .ref (mm 12), .ref (mm 13), .int 0, .ref (mm 14), .ref (mm 15), .ref (mm 16)])), ((mm 1), .inl (k 0, 1227, .inl f))] := hD
  refine lv_aload_n hx hb dX8_spread_5 rfl (lv_at hl 0 rfl) ?_
  refine lv_iload_n hx hb dX8_spread_6 rfl (lv_at hl 1 rfl) ?_
  refine kV_i (q0 := 0) (As := [.int a]) (rest := []) (cs := [((mm 0), .inr (7, [.int 0, .ref (mm 1), .ref (mm 2), .ref (mm 3), .ref (mm 4), .ref (mm 5), .int 0, .int 0, .int 0, .int 0, .int 0, .int 0, .int 0, .int 0, .int 0, .int (-1), .int 0, .ref (mm 6), .int 0, .ref (mm 7), .ref (mm 8), .ref (mm 9), .int 0, .ref (mm 10), .ref (mm 11), .int 0, .int 0, .ref (mm 12), .ref (mm 13), .int 0, .ref (mm 14), .ref (mm 15), .ref (mm 16)])), ((mm 1), .inl (k 0, 1227, .inl f))]) ⟨hx, hb, hml, hown, hts⟩ (c_M_isRoof l D k _ 0 f a hf0) (gV mw_409 mw_410 mw_411 mw_5 mw_412) hd_yX8_isRoof rfl rfl ⟨Nat.le_of_ble_eq_true rfl, Nat.le_of_ble_eq_true rfl⟩ hK (hP.sub (ws' := [((mm 0), .inr (7, [.int 0, .ref (mm 1), .ref (mm 2), .ref (mm 3), .ref (mm 4), .ref (mm 5), .int 0, .int 0, .int 0, .int 0, .int 0, .int 0, .int 0, .int 0, .int 0, .int (-1), .int 0, .ref (mm 6), .int 0, .ref (mm 7), .ref (mm 8), .ref (mm 9), .int 0, .ref (mm 10), .ref (mm 11), .int 0, .int 0, .ref (mm 12), .ref (mm 13), .int 0, .ref (mm 14), .ref (mm 15), .ref (mm 16)])), ((mm 1), .inl (k 0, 1227, .inl f))]) [0, 1] rfl) rfl rfl rfl rfl hl.1 rfl (Nat.le_of_ble_eq_true rfl) dX8_spread_7 ⟨Nat.le_of_ble_eq_true rfl, Nat.le_of_ble_eq_true rfl⟩ (fun r_1 hr_1 => ?_)
  obtain rfl : r_1 = 0 := hr_1
  refine lv_if_ne (tgt := 16) hx hb dX8_spread_10 (by decide) (fun c9 => absurd c9 (by decide)) (fun _ => ?_)
  refine lv_bipush (v := (-2)) hx hb dX8_spread_13 (by decide) ?_
  have hP9 := hP.sub (ws' := []) [] rfl
  have hD9 := hD.sub (ws' := []) [] (by decide) rfl
  exact W.iret (v := (-2)) hx hb hr (fun t ht hW => ⟨⟨(-2), (), rfl, rfl, by rw [ht]; exact hP9, hD9⟩, hS.F ht⟩) hS.2.2 dX8_spread_15
set_option maxHeartbeats 4000000 in
set_option maxRecDepth 100000 in
theorem c_M_mend (l : Launch) (D : va_G) (k : Nat → ClassId) (mm : Nat → Nat) (f : Nat → Int32) (a : Int32) (x : Int32) (sz : Nat) (hf0 : f 0 = 0) : Met l yX8_mend (Cond.code yX8_mend cX8_mend 4 (some .int) :: wsL_law) ({ frames := 2, cells := 0, slots := 0, locals := 120 } : Room) (va_Pc [.ref (mm 0), .int a, .int x] (pu D k sz [((mm 0), .inr (7, [.int 0, .ref (mm 1), .ref (mm 2), .ref (mm 3), .ref (mm 4), .ref (mm 5), .int 0, .int 0, .int 0, .int 0, .int 0, .int 0, .int 0, .int 0, .int 0, .int (-1), .int 0, .ref (mm 6), .int 0, .ref (mm 7), .ref (mm 8), .ref (mm 9), .int 0, .ref (mm 10), .ref (mm 11), .int 0, .int 0, .ref (mm 12), .ref (mm 13), .int 0, .ref (mm 14), .ref (mm 15), .ref (mm 16)])), ((mm 1), .inl (k 0, 1227, .inl f))])) (va_Qi (fun rr (uu : Unit) => rr = (-2)) (qu D (va_A [((mm 0), .inr (7, [.int 0, .ref (mm 1), .ref (mm 2), .ref (mm 3), .ref (mm 4), .ref (mm 5), .int 0, .int 0, .int 0, .int 0, .int 0, .int 0, .int 0, .int 0, .int 0, .int (-1), .int 0, .ref (mm 6), .int 0, .ref (mm 7), .ref (mm 8), .ref (mm 9), .int 0, .ref (mm 10), .ref (mm 11), .int 0, .int 0, .ref (mm 12), .ref (mm 13), .int 0, .ref (mm 14), .ref (mm 15), .ref (mm 16)])), ((mm 1), .inl (k 0, 1227, .inl f))] sz) (fun uu : Unit => [])) (va_A [((mm 0), .inr (7, [.int 0, .ref (mm 1), .ref (mm 2), .ref (mm 3), .ref (mm 4), .ref (mm 5), .int 0, .int 0, .int 0, .int 0, .int 0, .int 0, .int 0, .int 0, .int 0, .int (-1), .int 0, .ref (mm 6), .int 0, .ref (mm 7), .ref (mm 8), .ref (mm 9), .int 0, .ref (mm 10), .ref (mm 11), .int 0, .int 0, .ref (mm 12), .ref (mm 13), .int 0, .ref (mm 14), .ref (mm 15), .ref (mm 16)])), ((mm 1), .inl (k 0, 1227, .inl f))] sz)) 0 0 (va_A [((mm 0), .inr (7, [.int 0, .ref (mm 1), .ref (mm 2), .ref (mm 3), .ref (mm 4), .ref (mm 5), .int 0, .int 0, .int 0, .int 0, .int 0, .int 0, .int 0, .int 0, .int 0, .int (-1), .int 0, .ref (mm 6), .int 0, .ref (mm 7), .ref (mm 8), .ref (mm 9), .int 0, .ref (mm 10), .ref (mm 11), .int 0, .int 0, .ref (mm 12), .ref (mm 13), .int 0, .ref (mm 14), .ref (mm 15), .ref (mm 16)])), ((mm 1), .inl (k 0, 1227, .inl f))] sz) := by
  refine Met.ofW (cc := cX8_mend) (maxL := 4) (ret := (some .int)) (by decide) rfl ?_
  intro p e s m args below meth c s₁ B hml hv
  obtain ⟨rfl, hsz, hP, hK, hD0⟩ := hv
  have hx := B.exec
  have hb := B.bytes
  have hr := B.returns
  have hts : ∀ w ∈ wsL_law, w.before _ s = true := fun w h => atoms_spec (ws := Cond.code yX8_mend cX8_mend 4 (some .int) :: wsL_law) B.pre w (List.mem_cons_of_mem _ h)
  have hown : s.vm.findClass RX8 = some m.cls := findClass_of_methodNamed B.named
  have hlocks := B.notSynchronized
  subst hsz
  have hD := hD0.self (sz := s.heap.size)
  generalize hAe : va_A [((mm 0), .inr (7, [.int 0, .ref (mm 1), .ref (mm 2), .ref (mm 3), .ref (mm 4), .ref (mm 5), .int 0, .int 0, .int 0, .int 0, .int 0, .int 0, .int 0, .int 0, .int 0, .int (-1), .int 0, .ref (mm 6), .int 0, .ref (mm 7), .ref (mm 8), .ref (mm 9), .int 0, .ref (mm 10), .ref (mm 11), .int 0, .int 0, .ref (mm 12), .ref (mm 13), .int 0, .ref (mm 14), .ref (mm 15), .ref (mm 16)])), ((mm 1), .inl (k 0, 1227, .inl f))] s.heap.size = A at hD ⊢
  have hA : ∀ q : Nat, s.heap.size ≤ q → A q := fun q h => by rw [← hAe]; exact Or.inr h
  have hS : va_S A s.heap s.heap [] := va_S.rf
  have hP : va_P D vwCl [((mm 0), .inr (7, [.int 0, .ref (mm 1), .ref (mm 2), .ref (mm 3), .ref (mm 4), .ref (mm 5), .int 0, .int 0, .int 0, .int 0, .int 0, .int 0, .int 0, .int 0, .int 0, .int (-1), .int 0, .ref (mm 6), .int 0, .ref (mm 7), .ref (mm 8), .ref (mm 9), .int 0, .ref (mm 10), .ref (mm 11), .int 0, .int 0, .ref (mm 12), .ref (mm 13), .int 0, .ref (mm 14), .ref (mm 15), .ref (mm 16)])), ((mm 1), .inl (k 0, 1227, .inl f))] s.heap := hP
  have hl := lv_entry ([.ref (mm 0), .int a, .int x]) (n := 4) (Nat.le_of_ble_eq_true rfl)
  rw [lg_entry_eq]
  generalize (lg_sl ([.ref (mm 0), .int a, .int x]) ++ List.replicate (4 - (lg_sl ([.ref (mm 0), .int a, .int x])).length) Slot.unset).toArray = ls at hl ⊢
  have hl : lv_has ls 4 [(0, .ref (mm 0)), (1, .int a), (2, .int x)] := hl
  refine lv_aload_n hx hb dX8_mend_0 rfl (lv_at hl 0 rfl) ?_
  refine lv_iconst (v := 0) hx hb dX8_mend_1 (by decide) ?_
  refine va_put (D := D) (ci := 7) (v := .int 0) (ty := .int) (C := RX8) (T := TX8) (N := 33) hx hb hts inlX8 tyX8 tyX8_ok nmX8 hown hK hP hD hS 0 rfl rfl 0 (by decide) (hts _ mw_125) (fun _ h9 => h9) rfl (by decide +kernel) rfl rfl (Nat.le_of_ble_eq_true rfl) dX8_mend_2 (fun H locs hP hD hS => ?_)
  have hP : va_P D vwCl [((mm 0), .inr (7, [.int 0, .ref (mm 1), .ref (mm 2), .ref (mm 3), .ref (mm 4), .ref (mm 5), .int 0, .int 0, .int 0, .int 0, .int 0, .int 0, .int 0, .int 0, .int 0, .int (-1), .int 0, .ref (mm 6), .int 0, .ref (mm 7), .ref (mm 8), .ref (mm 9), .int 0, .ref (mm 10), .ref (mm 11), .int 0, .int 0, .ref (mm 12), .ref (mm 13), .int 0, .ref (mm 14), .ref (mm 15), .ref (mm 16)])), ((mm 1), .inl (k 0, 1227, .inl f))] H := hP
  have hD : va_D A [((mm 0), .inr (7, [.int 0, .ref (mm 1), .ref (mm 2), .ref (mm 3), .ref (mm 4), .ref (mm 5), .int 0, .int 0, .int 0, .int 0, .int 0, .int 0, .int 0, .int 0, .int 0, .int (-1), .int 0, .ref (mm 6), .int 0, .ref (mm 7), .ref (mm 8), .ref (mm 9), .int 0, .ref (mm 10), .ref (mm 11), .int 0, .int 0, .ref (mm 12), .ref (mm 13), .int 0, .ref (mm 14), .ref (mm 15), .ref (mm 16)])), ((mm 1), .inl (k 0, 1227, .inl f))] := hD
  refine lv_aload_n hx hb dX8_mend_5 rfl (lv_at hl 0 rfl) ?_
  refine lv_iload_n hx hb dX8_mend_6 rfl (lv_at hl 1 rfl) ?_
  refine kV_i (q0 := 0) (As := [.int a]) (rest := []) (cs := [((mm 0), .inr (7, [.int 0, .ref (mm 1), .ref (mm 2), .ref (mm 3), .ref (mm 4), .ref (mm 5), .int 0, .int 0, .int 0, .int 0, .int 0, .int 0, .int 0, .int 0, .int 0, .int (-1), .int 0, .ref (mm 6), .int 0, .ref (mm 7), .ref (mm 8), .ref (mm 9), .int 0, .ref (mm 10), .ref (mm 11), .int 0, .int 0, .ref (mm 12), .ref (mm 13), .int 0, .ref (mm 14), .ref (mm 15), .ref (mm 16)])), ((mm 1), .inl (k 0, 1227, .inl f))]) ⟨hx, hb, hml, hown, hts⟩ (c_M_isRoof l D k _ 0 f a hf0) (gV mw_409 mw_410 mw_411 mw_5 mw_412) hd_yX8_isRoof rfl rfl ⟨Nat.le_of_ble_eq_true rfl, Nat.le_of_ble_eq_true rfl⟩ hK (hP.sub (ws' := [((mm 0), .inr (7, [.int 0, .ref (mm 1), .ref (mm 2), .ref (mm 3), .ref (mm 4), .ref (mm 5), .int 0, .int 0, .int 0, .int 0, .int 0, .int 0, .int 0, .int 0, .int 0, .int (-1), .int 0, .ref (mm 6), .int 0, .ref (mm 7), .ref (mm 8), .ref (mm 9), .int 0, .ref (mm 10), .ref (mm 11), .int 0, .int 0, .ref (mm 12), .ref (mm 13), .int 0, .ref (mm 14), .ref (mm 15), .ref (mm 16)])), ((mm 1), .inl (k 0, 1227, .inl f))]) [0, 1] rfl) rfl rfl rfl rfl hl.1 rfl (Nat.le_of_ble_eq_true rfl) dX8_mend_7 ⟨Nat.le_of_ble_eq_true rfl, Nat.le_of_ble_eq_true rfl⟩ (fun r_1 hr_1 => ?_)
  obtain rfl : r_1 = 0 := hr_1
  refine lv_if_eq (tgt := 23) hx hb dX8_mend_10 (by decide) (fun _ => ?_) (fun c9 => absurd c9 (by decide))
  refine lv_bipush (v := (-2)) hx hb dX8_mend_23 (by decide) ?_
  have hP9 := hP.sub (ws' := []) [] rfl
  have hD9 := hD.sub (ws' := []) [] (by decide) rfl
  exact W.iret (v := (-2)) hx hb hr (fun t ht hW => ⟨⟨(-2), (), rfl, rfl, by rw [ht]; exact hP9, hD9⟩, hS.F ht⟩) hS.2.2 dX8_mend_25
set_option maxHeartbeats 4000000 in
set_option maxRecDepth 100000 in
theorem c_M_slate (l : Launch) (D : va_G) (k : Nat → ClassId) (mm : Nat → Nat) (f : Nat → Int32) (a : Int32) (sz : Nat) (hf0 : f 0 = 0) : Met l yX8_slate (Cond.code yX8_slate cX8_slate 3 (some .int) :: wsL_law) ({ frames := 2, cells := 0, slots := 0, locals := 120 } : Room) (va_Pc [.ref (mm 0), .int a] (pu D k sz [((mm 0), .inr (7, [.int 0, .ref (mm 1), .ref (mm 2), .ref (mm 3), .ref (mm 4), .ref (mm 5), .int 0, .int 0, .int 0, .int 0, .int 0, .int 0, .int 0, .int 0, .int 0, .int (-1), .int 0, .ref (mm 6), .int 0, .ref (mm 7), .ref (mm 8), .ref (mm 9), .int 0, .ref (mm 10), .ref (mm 11), .int 0, .int 0, .ref (mm 12), .ref (mm 13), .int 0, .ref (mm 14), .ref (mm 15), .ref (mm 16)])), ((mm 1), .inl (k 0, 1227, .inl f))])) (va_Qi (fun rr (uu : Unit) => rr = (-2)) (qu D (va_A [((mm 0), .inr (7, [.int 0, .ref (mm 1), .ref (mm 2), .ref (mm 3), .ref (mm 4), .ref (mm 5), .int 0, .int 0, .int 0, .int 0, .int 0, .int 0, .int 0, .int 0, .int 0, .int (-1), .int 0, .ref (mm 6), .int 0, .ref (mm 7), .ref (mm 8), .ref (mm 9), .int 0, .ref (mm 10), .ref (mm 11), .int 0, .int 0, .ref (mm 12), .ref (mm 13), .int 0, .ref (mm 14), .ref (mm 15), .ref (mm 16)])), ((mm 1), .inl (k 0, 1227, .inl f))] sz) (fun uu : Unit => [])) (va_A [((mm 0), .inr (7, [.int 0, .ref (mm 1), .ref (mm 2), .ref (mm 3), .ref (mm 4), .ref (mm 5), .int 0, .int 0, .int 0, .int 0, .int 0, .int 0, .int 0, .int 0, .int 0, .int (-1), .int 0, .ref (mm 6), .int 0, .ref (mm 7), .ref (mm 8), .ref (mm 9), .int 0, .ref (mm 10), .ref (mm 11), .int 0, .int 0, .ref (mm 12), .ref (mm 13), .int 0, .ref (mm 14), .ref (mm 15), .ref (mm 16)])), ((mm 1), .inl (k 0, 1227, .inl f))] sz)) 0 0 (va_A [((mm 0), .inr (7, [.int 0, .ref (mm 1), .ref (mm 2), .ref (mm 3), .ref (mm 4), .ref (mm 5), .int 0, .int 0, .int 0, .int 0, .int 0, .int 0, .int 0, .int 0, .int 0, .int (-1), .int 0, .ref (mm 6), .int 0, .ref (mm 7), .ref (mm 8), .ref (mm 9), .int 0, .ref (mm 10), .ref (mm 11), .int 0, .int 0, .ref (mm 12), .ref (mm 13), .int 0, .ref (mm 14), .ref (mm 15), .ref (mm 16)])), ((mm 1), .inl (k 0, 1227, .inl f))] sz) := by
  refine Met.ofW (cc := cX8_slate) (maxL := 3) (ret := (some .int)) (by decide) rfl ?_
  intro p e s m args below meth c s₁ B hml hv
  obtain ⟨rfl, hsz, hP, hK, hD0⟩ := hv
  have hx := B.exec
  have hb := B.bytes
  have hr := B.returns
  have hts : ∀ w ∈ wsL_law, w.before _ s = true := fun w h => atoms_spec (ws := Cond.code yX8_slate cX8_slate 3 (some .int) :: wsL_law) B.pre w (List.mem_cons_of_mem _ h)
  have hown : s.vm.findClass RX8 = some m.cls := findClass_of_methodNamed B.named
  have hlocks := B.notSynchronized
  subst hsz
  have hD := hD0.self (sz := s.heap.size)
  generalize hAe : va_A [((mm 0), .inr (7, [.int 0, .ref (mm 1), .ref (mm 2), .ref (mm 3), .ref (mm 4), .ref (mm 5), .int 0, .int 0, .int 0, .int 0, .int 0, .int 0, .int 0, .int 0, .int 0, .int (-1), .int 0, .ref (mm 6), .int 0, .ref (mm 7), .ref (mm 8), .ref (mm 9), .int 0, .ref (mm 10), .ref (mm 11), .int 0, .int 0, .ref (mm 12), .ref (mm 13), .int 0, .ref (mm 14), .ref (mm 15), .ref (mm 16)])), ((mm 1), .inl (k 0, 1227, .inl f))] s.heap.size = A at hD ⊢
  have hA : ∀ q : Nat, s.heap.size ≤ q → A q := fun q h => by rw [← hAe]; exact Or.inr h
  have hS : va_S A s.heap s.heap [] := va_S.rf
  have hP : va_P D vwCl [((mm 0), .inr (7, [.int 0, .ref (mm 1), .ref (mm 2), .ref (mm 3), .ref (mm 4), .ref (mm 5), .int 0, .int 0, .int 0, .int 0, .int 0, .int 0, .int 0, .int 0, .int 0, .int (-1), .int 0, .ref (mm 6), .int 0, .ref (mm 7), .ref (mm 8), .ref (mm 9), .int 0, .ref (mm 10), .ref (mm 11), .int 0, .int 0, .ref (mm 12), .ref (mm 13), .int 0, .ref (mm 14), .ref (mm 15), .ref (mm 16)])), ((mm 1), .inl (k 0, 1227, .inl f))] s.heap := hP
  have hl := lv_entry ([.ref (mm 0), .int a]) (n := 3) (Nat.le_of_ble_eq_true rfl)
  rw [lg_entry_eq]
  generalize (lg_sl ([.ref (mm 0), .int a]) ++ List.replicate (3 - (lg_sl ([.ref (mm 0), .int a])).length) Slot.unset).toArray = ls at hl ⊢
  have hl : lv_has ls 3 [(0, .ref (mm 0)), (1, .int a)] := hl
  refine lv_aload_n hx hb dX8_slate_0 rfl (lv_at hl 0 rfl) ?_
  refine lv_iconst (v := 0) hx hb dX8_slate_1 (by decide) ?_
  refine va_put (D := D) (ci := 7) (v := .int 0) (ty := .int) (C := RX8) (T := TX8) (N := 33) hx hb hts inlX8 tyX8 tyX8_ok nmX8 hown hK hP hD hS 0 rfl rfl 0 (by decide) (hts _ mw_125) (fun _ h9 => h9) rfl (by decide +kernel) rfl rfl (Nat.le_of_ble_eq_true rfl) dX8_slate_2 (fun H locs hP hD hS => ?_)
  have hP : va_P D vwCl [((mm 0), .inr (7, [.int 0, .ref (mm 1), .ref (mm 2), .ref (mm 3), .ref (mm 4), .ref (mm 5), .int 0, .int 0, .int 0, .int 0, .int 0, .int 0, .int 0, .int 0, .int 0, .int (-1), .int 0, .ref (mm 6), .int 0, .ref (mm 7), .ref (mm 8), .ref (mm 9), .int 0, .ref (mm 10), .ref (mm 11), .int 0, .int 0, .ref (mm 12), .ref (mm 13), .int 0, .ref (mm 14), .ref (mm 15), .ref (mm 16)])), ((mm 1), .inl (k 0, 1227, .inl f))] H := hP
  have hD : va_D A [((mm 0), .inr (7, [.int 0, .ref (mm 1), .ref (mm 2), .ref (mm 3), .ref (mm 4), .ref (mm 5), .int 0, .int 0, .int 0, .int 0, .int 0, .int 0, .int 0, .int 0, .int 0, .int (-1), .int 0, .ref (mm 6), .int 0, .ref (mm 7), .ref (mm 8), .ref (mm 9), .int 0, .ref (mm 10), .ref (mm 11), .int 0, .int 0, .ref (mm 12), .ref (mm 13), .int 0, .ref (mm 14), .ref (mm 15), .ref (mm 16)])), ((mm 1), .inl (k 0, 1227, .inl f))] := hD
  refine lv_aload_n hx hb dX8_slate_5 rfl (lv_at hl 0 rfl) ?_
  refine lv_iload_n hx hb dX8_slate_6 rfl (lv_at hl 1 rfl) ?_
  refine kV_i (q0 := 0) (As := [.int a]) (rest := []) (cs := [((mm 0), .inr (7, [.int 0, .ref (mm 1), .ref (mm 2), .ref (mm 3), .ref (mm 4), .ref (mm 5), .int 0, .int 0, .int 0, .int 0, .int 0, .int 0, .int 0, .int 0, .int 0, .int (-1), .int 0, .ref (mm 6), .int 0, .ref (mm 7), .ref (mm 8), .ref (mm 9), .int 0, .ref (mm 10), .ref (mm 11), .int 0, .int 0, .ref (mm 12), .ref (mm 13), .int 0, .ref (mm 14), .ref (mm 15), .ref (mm 16)])), ((mm 1), .inl (k 0, 1227, .inl f))]) ⟨hx, hb, hml, hown, hts⟩ (c_M_isRoof l D k _ 0 f a hf0) (gV mw_409 mw_410 mw_411 mw_5 mw_412) hd_yX8_isRoof rfl rfl ⟨Nat.le_of_ble_eq_true rfl, Nat.le_of_ble_eq_true rfl⟩ hK (hP.sub (ws' := [((mm 0), .inr (7, [.int 0, .ref (mm 1), .ref (mm 2), .ref (mm 3), .ref (mm 4), .ref (mm 5), .int 0, .int 0, .int 0, .int 0, .int 0, .int 0, .int 0, .int 0, .int 0, .int (-1), .int 0, .ref (mm 6), .int 0, .ref (mm 7), .ref (mm 8), .ref (mm 9), .int 0, .ref (mm 10), .ref (mm 11), .int 0, .int 0, .ref (mm 12), .ref (mm 13), .int 0, .ref (mm 14), .ref (mm 15), .ref (mm 16)])), ((mm 1), .inl (k 0, 1227, .inl f))]) [0, 1] rfl) rfl rfl rfl rfl hl.1 rfl (Nat.le_of_ble_eq_true rfl) dX8_slate_7 ⟨Nat.le_of_ble_eq_true rfl, Nat.le_of_ble_eq_true rfl⟩ (fun r_1 hr_1 => ?_)
  obtain rfl : r_1 = 0 := hr_1
  refine lv_if_ne (tgt := 16) hx hb dX8_slate_10 (by decide) (fun c9 => absurd c9 (by decide)) (fun _ => ?_)
  refine lv_bipush (v := (-2)) hx hb dX8_slate_13 (by decide) ?_
  have hP9 := hP.sub (ws' := []) [] rfl
  have hD9 := hD.sub (ws' := []) [] (by decide) rfl
  exact W.iret (v := (-2)) hx hb hr (fun t ht hW => ⟨⟨(-2), (), rfl, rfl, by rw [ht]; exact hP9, hD9⟩, hS.F ht⟩) hS.2.2 dX8_slate_15
set_option maxHeartbeats 4000000 in
set_option maxRecDepth 100000 in
theorem c_M_burn (l : Launch) (D : va_G) (k : Nat → ClassId) (mm : Nat → Nat) (f : Nat → Int32) (a : Int32) (sz : Nat) (hf0 : f 0 = 0) : Met l yX8_burn (Cond.code yX8_burn cX8_burn 3 (some .int) :: wsL_law) ({ frames := 2, cells := 0, slots := 0, locals := 120 } : Room) (va_Pc [.ref (mm 0), .int a] (pu D k sz [((mm 0), .inr (7, [.int 0, .ref (mm 1), .ref (mm 2), .ref (mm 3), .ref (mm 4), .ref (mm 5), .int 0, .int 0, .int 0, .int 0, .int 0, .int 0, .int 0, .int 0, .int 0, .int (-1), .int 0, .ref (mm 6), .int 0, .ref (mm 7), .ref (mm 8), .ref (mm 9), .int 0, .ref (mm 10), .ref (mm 11), .int 0, .int 0, .ref (mm 12), .ref (mm 13), .int 0, .ref (mm 14), .ref (mm 15), .ref (mm 16)])), ((mm 1), .inl (k 0, 1227, .inl f))])) (va_Qi (fun rr (uu : Unit) => rr = (-2)) (qu D (va_A [((mm 0), .inr (7, [.int 0, .ref (mm 1), .ref (mm 2), .ref (mm 3), .ref (mm 4), .ref (mm 5), .int 0, .int 0, .int 0, .int 0, .int 0, .int 0, .int 0, .int 0, .int 0, .int (-1), .int 0, .ref (mm 6), .int 0, .ref (mm 7), .ref (mm 8), .ref (mm 9), .int 0, .ref (mm 10), .ref (mm 11), .int 0, .int 0, .ref (mm 12), .ref (mm 13), .int 0, .ref (mm 14), .ref (mm 15), .ref (mm 16)])), ((mm 1), .inl (k 0, 1227, .inl f))] sz) (fun uu : Unit => [])) (va_A [((mm 0), .inr (7, [.int 0, .ref (mm 1), .ref (mm 2), .ref (mm 3), .ref (mm 4), .ref (mm 5), .int 0, .int 0, .int 0, .int 0, .int 0, .int 0, .int 0, .int 0, .int 0, .int (-1), .int 0, .ref (mm 6), .int 0, .ref (mm 7), .ref (mm 8), .ref (mm 9), .int 0, .ref (mm 10), .ref (mm 11), .int 0, .int 0, .ref (mm 12), .ref (mm 13), .int 0, .ref (mm 14), .ref (mm 15), .ref (mm 16)])), ((mm 1), .inl (k 0, 1227, .inl f))] sz)) 0 0 (va_A [((mm 0), .inr (7, [.int 0, .ref (mm 1), .ref (mm 2), .ref (mm 3), .ref (mm 4), .ref (mm 5), .int 0, .int 0, .int 0, .int 0, .int 0, .int 0, .int 0, .int 0, .int 0, .int (-1), .int 0, .ref (mm 6), .int 0, .ref (mm 7), .ref (mm 8), .ref (mm 9), .int 0, .ref (mm 10), .ref (mm 11), .int 0, .int 0, .ref (mm 12), .ref (mm 13), .int 0, .ref (mm 14), .ref (mm 15), .ref (mm 16)])), ((mm 1), .inl (k 0, 1227, .inl f))] sz) := by
  refine Met.ofW (cc := cX8_burn) (maxL := 3) (ret := (some .int)) (by decide) rfl ?_
  intro p e s m args below meth c s₁ B hml hv
  obtain ⟨rfl, hsz, hP, hK, hD0⟩ := hv
  have hx := B.exec
  have hb := B.bytes
  have hr := B.returns
  have hts : ∀ w ∈ wsL_law, w.before _ s = true := fun w h => atoms_spec (ws := Cond.code yX8_burn cX8_burn 3 (some .int) :: wsL_law) B.pre w (List.mem_cons_of_mem _ h)
  have hown : s.vm.findClass RX8 = some m.cls := findClass_of_methodNamed B.named
  have hlocks := B.notSynchronized
  subst hsz
  have hD := hD0.self (sz := s.heap.size)
  generalize hAe : va_A [((mm 0), .inr (7, [.int 0, .ref (mm 1), .ref (mm 2), .ref (mm 3), .ref (mm 4), .ref (mm 5), .int 0, .int 0, .int 0, .int 0, .int 0, .int 0, .int 0, .int 0, .int 0, .int (-1), .int 0, .ref (mm 6), .int 0, .ref (mm 7), .ref (mm 8), .ref (mm 9), .int 0, .ref (mm 10), .ref (mm 11), .int 0, .int 0, .ref (mm 12), .ref (mm 13), .int 0, .ref (mm 14), .ref (mm 15), .ref (mm 16)])), ((mm 1), .inl (k 0, 1227, .inl f))] s.heap.size = A at hD ⊢
  have hA : ∀ q : Nat, s.heap.size ≤ q → A q := fun q h => by rw [← hAe]; exact Or.inr h
  have hS : va_S A s.heap s.heap [] := va_S.rf
  have hP : va_P D vwCl [((mm 0), .inr (7, [.int 0, .ref (mm 1), .ref (mm 2), .ref (mm 3), .ref (mm 4), .ref (mm 5), .int 0, .int 0, .int 0, .int 0, .int 0, .int 0, .int 0, .int 0, .int 0, .int (-1), .int 0, .ref (mm 6), .int 0, .ref (mm 7), .ref (mm 8), .ref (mm 9), .int 0, .ref (mm 10), .ref (mm 11), .int 0, .int 0, .ref (mm 12), .ref (mm 13), .int 0, .ref (mm 14), .ref (mm 15), .ref (mm 16)])), ((mm 1), .inl (k 0, 1227, .inl f))] s.heap := hP
  have hl := lv_entry ([.ref (mm 0), .int a]) (n := 3) (Nat.le_of_ble_eq_true rfl)
  rw [lg_entry_eq]
  generalize (lg_sl ([.ref (mm 0), .int a]) ++ List.replicate (3 - (lg_sl ([.ref (mm 0), .int a])).length) Slot.unset).toArray = ls at hl ⊢
  have hl : lv_has ls 3 [(0, .ref (mm 0)), (1, .int a)] := hl
  refine lv_aload_n hx hb dX8_burn_0 rfl (lv_at hl 0 rfl) ?_
  refine lv_iconst (v := 0) hx hb dX8_burn_1 (by decide) ?_
  refine va_put (D := D) (ci := 7) (v := .int 0) (ty := .int) (C := RX8) (T := TX8) (N := 33) hx hb hts inlX8 tyX8 tyX8_ok nmX8 hown hK hP hD hS 0 rfl rfl 0 (by decide) (hts _ mw_125) (fun _ h9 => h9) rfl (by decide +kernel) rfl rfl (Nat.le_of_ble_eq_true rfl) dX8_burn_2 (fun H locs hP hD hS => ?_)
  have hP : va_P D vwCl [((mm 0), .inr (7, [.int 0, .ref (mm 1), .ref (mm 2), .ref (mm 3), .ref (mm 4), .ref (mm 5), .int 0, .int 0, .int 0, .int 0, .int 0, .int 0, .int 0, .int 0, .int 0, .int (-1), .int 0, .ref (mm 6), .int 0, .ref (mm 7), .ref (mm 8), .ref (mm 9), .int 0, .ref (mm 10), .ref (mm 11), .int 0, .int 0, .ref (mm 12), .ref (mm 13), .int 0, .ref (mm 14), .ref (mm 15), .ref (mm 16)])), ((mm 1), .inl (k 0, 1227, .inl f))] H := hP
  have hD : va_D A [((mm 0), .inr (7, [.int 0, .ref (mm 1), .ref (mm 2), .ref (mm 3), .ref (mm 4), .ref (mm 5), .int 0, .int 0, .int 0, .int 0, .int 0, .int 0, .int 0, .int 0, .int 0, .int (-1), .int 0, .ref (mm 6), .int 0, .ref (mm 7), .ref (mm 8), .ref (mm 9), .int 0, .ref (mm 10), .ref (mm 11), .int 0, .int 0, .ref (mm 12), .ref (mm 13), .int 0, .ref (mm 14), .ref (mm 15), .ref (mm 16)])), ((mm 1), .inl (k 0, 1227, .inl f))] := hD
  refine lv_aload_n hx hb dX8_burn_5 rfl (lv_at hl 0 rfl) ?_
  refine lv_iload_n hx hb dX8_burn_6 rfl (lv_at hl 1 rfl) ?_
  refine kV_i (q0 := 0) (As := [.int a]) (rest := []) (cs := [((mm 0), .inr (7, [.int 0, .ref (mm 1), .ref (mm 2), .ref (mm 3), .ref (mm 4), .ref (mm 5), .int 0, .int 0, .int 0, .int 0, .int 0, .int 0, .int 0, .int 0, .int 0, .int (-1), .int 0, .ref (mm 6), .int 0, .ref (mm 7), .ref (mm 8), .ref (mm 9), .int 0, .ref (mm 10), .ref (mm 11), .int 0, .int 0, .ref (mm 12), .ref (mm 13), .int 0, .ref (mm 14), .ref (mm 15), .ref (mm 16)])), ((mm 1), .inl (k 0, 1227, .inl f))]) ⟨hx, hb, hml, hown, hts⟩ (c_M_isRoof l D k _ 0 f a hf0) (gV mw_409 mw_410 mw_411 mw_5 mw_412) hd_yX8_isRoof rfl rfl ⟨Nat.le_of_ble_eq_true rfl, Nat.le_of_ble_eq_true rfl⟩ hK (hP.sub (ws' := [((mm 0), .inr (7, [.int 0, .ref (mm 1), .ref (mm 2), .ref (mm 3), .ref (mm 4), .ref (mm 5), .int 0, .int 0, .int 0, .int 0, .int 0, .int 0, .int 0, .int 0, .int 0, .int (-1), .int 0, .ref (mm 6), .int 0, .ref (mm 7), .ref (mm 8), .ref (mm 9), .int 0, .ref (mm 10), .ref (mm 11), .int 0, .int 0, .ref (mm 12), .ref (mm 13), .int 0, .ref (mm 14), .ref (mm 15), .ref (mm 16)])), ((mm 1), .inl (k 0, 1227, .inl f))]) [0, 1] rfl) rfl rfl rfl rfl hl.1 rfl (Nat.le_of_ble_eq_true rfl) dX8_burn_7 ⟨Nat.le_of_ble_eq_true rfl, Nat.le_of_ble_eq_true rfl⟩ (fun r_1 hr_1 => ?_)
  obtain rfl : r_1 = 0 := hr_1
  refine lv_if_ne (tgt := 16) hx hb dX8_burn_10 (by decide) (fun c9 => absurd c9 (by decide)) (fun _ => ?_)
  refine lv_bipush (v := (-2)) hx hb dX8_burn_13 (by decide) ?_
  have hP9 := hP.sub (ws' := []) [] rfl
  have hD9 := hD.sub (ws' := []) [] (by decide) rfl
  exact W.iret (v := (-2)) hx hb hr (fun t ht hW => ⟨⟨(-2), (), rfl, rfl, by rw [ht]; exact hP9, hD9⟩, hS.F ht⟩) hS.2.2 dX8_burn_15
set_option maxHeartbeats 4000000 in
set_option maxRecDepth 100000 in
theorem c_M_harms (l : Launch) (D : va_G) (k : Nat → ClassId) (mm : Nat → Nat) (f : Nat → Int32) (a : Int32) (x : Int32) (z : Int32) (sz : Nat) (hf0 : f 0 = 0) : Met l yX8_harms (Cond.code yX8_harms cX8_harms 5 (some .int) :: wsL_law) ({ frames := 2, cells := 0, slots := 0, locals := 120 } : Room) (va_Pc [.ref (mm 0), .int a, .int x, .int z] (pu D k sz [((mm 0), .inr (7, [.int 0, .ref (mm 1), .ref (mm 2), .ref (mm 3), .ref (mm 4), .ref (mm 5), .int 0, .int 0, .int 0, .int 0, .int 0, .int 0, .int 0, .int 0, .int 0, .int (-1), .int 0, .ref (mm 6), .int 0, .ref (mm 7), .ref (mm 8), .ref (mm 9), .int 0, .ref (mm 10), .ref (mm 11), .int 0, .int 0, .ref (mm 12), .ref (mm 13), .int 0, .ref (mm 14), .ref (mm 15), .ref (mm 16)])), ((mm 1), .inl (k 0, 1227, .inl f))])) (va_Qi (fun rr (uu : Unit) => rr = (-2)) (qu D (va_A [((mm 0), .inr (7, [.int 0, .ref (mm 1), .ref (mm 2), .ref (mm 3), .ref (mm 4), .ref (mm 5), .int 0, .int 0, .int 0, .int 0, .int 0, .int 0, .int 0, .int 0, .int 0, .int (-1), .int 0, .ref (mm 6), .int 0, .ref (mm 7), .ref (mm 8), .ref (mm 9), .int 0, .ref (mm 10), .ref (mm 11), .int 0, .int 0, .ref (mm 12), .ref (mm 13), .int 0, .ref (mm 14), .ref (mm 15), .ref (mm 16)])), ((mm 1), .inl (k 0, 1227, .inl f))] sz) (fun uu : Unit => [])) (va_A [((mm 0), .inr (7, [.int 0, .ref (mm 1), .ref (mm 2), .ref (mm 3), .ref (mm 4), .ref (mm 5), .int 0, .int 0, .int 0, .int 0, .int 0, .int 0, .int 0, .int 0, .int 0, .int (-1), .int 0, .ref (mm 6), .int 0, .ref (mm 7), .ref (mm 8), .ref (mm 9), .int 0, .ref (mm 10), .ref (mm 11), .int 0, .int 0, .ref (mm 12), .ref (mm 13), .int 0, .ref (mm 14), .ref (mm 15), .ref (mm 16)])), ((mm 1), .inl (k 0, 1227, .inl f))] sz)) 0 0 (va_A [((mm 0), .inr (7, [.int 0, .ref (mm 1), .ref (mm 2), .ref (mm 3), .ref (mm 4), .ref (mm 5), .int 0, .int 0, .int 0, .int 0, .int 0, .int 0, .int 0, .int 0, .int 0, .int (-1), .int 0, .ref (mm 6), .int 0, .ref (mm 7), .ref (mm 8), .ref (mm 9), .int 0, .ref (mm 10), .ref (mm 11), .int 0, .int 0, .ref (mm 12), .ref (mm 13), .int 0, .ref (mm 14), .ref (mm 15), .ref (mm 16)])), ((mm 1), .inl (k 0, 1227, .inl f))] sz) := by
  refine Met.ofW (cc := cX8_harms) (maxL := 5) (ret := (some .int)) (by decide) rfl ?_
  intro p e s m args below meth c s₁ B hml hv
  obtain ⟨rfl, hsz, hP, hK, hD0⟩ := hv
  have hx := B.exec
  have hb := B.bytes
  have hr := B.returns
  have hts : ∀ w ∈ wsL_law, w.before _ s = true := fun w h => atoms_spec (ws := Cond.code yX8_harms cX8_harms 5 (some .int) :: wsL_law) B.pre w (List.mem_cons_of_mem _ h)
  have hown : s.vm.findClass RX8 = some m.cls := findClass_of_methodNamed B.named
  have hlocks := B.notSynchronized
  subst hsz
  have hD := hD0.self (sz := s.heap.size)
  generalize hAe : va_A [((mm 0), .inr (7, [.int 0, .ref (mm 1), .ref (mm 2), .ref (mm 3), .ref (mm 4), .ref (mm 5), .int 0, .int 0, .int 0, .int 0, .int 0, .int 0, .int 0, .int 0, .int 0, .int (-1), .int 0, .ref (mm 6), .int 0, .ref (mm 7), .ref (mm 8), .ref (mm 9), .int 0, .ref (mm 10), .ref (mm 11), .int 0, .int 0, .ref (mm 12), .ref (mm 13), .int 0, .ref (mm 14), .ref (mm 15), .ref (mm 16)])), ((mm 1), .inl (k 0, 1227, .inl f))] s.heap.size = A at hD ⊢
  have hA : ∀ q : Nat, s.heap.size ≤ q → A q := fun q h => by rw [← hAe]; exact Or.inr h
  have hS : va_S A s.heap s.heap [] := va_S.rf
  have hP : va_P D vwCl [((mm 0), .inr (7, [.int 0, .ref (mm 1), .ref (mm 2), .ref (mm 3), .ref (mm 4), .ref (mm 5), .int 0, .int 0, .int 0, .int 0, .int 0, .int 0, .int 0, .int 0, .int 0, .int (-1), .int 0, .ref (mm 6), .int 0, .ref (mm 7), .ref (mm 8), .ref (mm 9), .int 0, .ref (mm 10), .ref (mm 11), .int 0, .int 0, .ref (mm 12), .ref (mm 13), .int 0, .ref (mm 14), .ref (mm 15), .ref (mm 16)])), ((mm 1), .inl (k 0, 1227, .inl f))] s.heap := hP
  have hl := lv_entry ([.ref (mm 0), .int a, .int x, .int z]) (n := 5) (Nat.le_of_ble_eq_true rfl)
  rw [lg_entry_eq]
  generalize (lg_sl ([.ref (mm 0), .int a, .int x, .int z]) ++ List.replicate (5 - (lg_sl ([.ref (mm 0), .int a, .int x, .int z])).length) Slot.unset).toArray = ls at hl ⊢
  have hl : lv_has ls 5 [(0, .ref (mm 0)), (1, .int a), (2, .int x), (3, .int z)] := hl
  refine lv_aload_n hx hb dX8_harms_0 rfl (lv_at hl 0 rfl) ?_
  refine lv_iconst (v := 0) hx hb dX8_harms_1 (by decide) ?_
  refine va_put (D := D) (ci := 7) (v := .int 0) (ty := .int) (C := RX8) (T := TX8) (N := 33) hx hb hts inlX8 tyX8 tyX8_ok nmX8 hown hK hP hD hS 0 rfl rfl 0 (by decide) (hts _ mw_125) (fun _ h9 => h9) rfl (by decide +kernel) rfl rfl (Nat.le_of_ble_eq_true rfl) dX8_harms_2 (fun H locs hP hD hS => ?_)
  have hP : va_P D vwCl [((mm 0), .inr (7, [.int 0, .ref (mm 1), .ref (mm 2), .ref (mm 3), .ref (mm 4), .ref (mm 5), .int 0, .int 0, .int 0, .int 0, .int 0, .int 0, .int 0, .int 0, .int 0, .int (-1), .int 0, .ref (mm 6), .int 0, .ref (mm 7), .ref (mm 8), .ref (mm 9), .int 0, .ref (mm 10), .ref (mm 11), .int 0, .int 0, .ref (mm 12), .ref (mm 13), .int 0, .ref (mm 14), .ref (mm 15), .ref (mm 16)])), ((mm 1), .inl (k 0, 1227, .inl f))] H := hP
  have hD : va_D A [((mm 0), .inr (7, [.int 0, .ref (mm 1), .ref (mm 2), .ref (mm 3), .ref (mm 4), .ref (mm 5), .int 0, .int 0, .int 0, .int 0, .int 0, .int 0, .int 0, .int 0, .int 0, .int (-1), .int 0, .ref (mm 6), .int 0, .ref (mm 7), .ref (mm 8), .ref (mm 9), .int 0, .ref (mm 10), .ref (mm 11), .int 0, .int 0, .ref (mm 12), .ref (mm 13), .int 0, .ref (mm 14), .ref (mm 15), .ref (mm 16)])), ((mm 1), .inl (k 0, 1227, .inl f))] := hD
  refine lv_aload_n hx hb dX8_harms_5 rfl (lv_at hl 0 rfl) ?_
  refine lv_iload_n hx hb dX8_harms_6 rfl (lv_at hl 2 rfl) ?_
  refine kV_i (q0 := 0) (As := [.int x]) (rest := []) (cs := [((mm 0), .inr (7, [.int 0, .ref (mm 1), .ref (mm 2), .ref (mm 3), .ref (mm 4), .ref (mm 5), .int 0, .int 0, .int 0, .int 0, .int 0, .int 0, .int 0, .int 0, .int 0, .int (-1), .int 0, .ref (mm 6), .int 0, .ref (mm 7), .ref (mm 8), .ref (mm 9), .int 0, .ref (mm 10), .ref (mm 11), .int 0, .int 0, .ref (mm 12), .ref (mm 13), .int 0, .ref (mm 14), .ref (mm 15), .ref (mm 16)])), ((mm 1), .inl (k 0, 1227, .inl f))]) ⟨hx, hb, hml, hown, hts⟩ (c_M_isRoof l D k _ 0 f x hf0) (gV mw_409 mw_410 mw_411 mw_5 mw_412) hd_yX8_isRoof rfl rfl ⟨Nat.le_of_ble_eq_true rfl, Nat.le_of_ble_eq_true rfl⟩ hK (hP.sub (ws' := [((mm 0), .inr (7, [.int 0, .ref (mm 1), .ref (mm 2), .ref (mm 3), .ref (mm 4), .ref (mm 5), .int 0, .int 0, .int 0, .int 0, .int 0, .int 0, .int 0, .int 0, .int 0, .int (-1), .int 0, .ref (mm 6), .int 0, .ref (mm 7), .ref (mm 8), .ref (mm 9), .int 0, .ref (mm 10), .ref (mm 11), .int 0, .int 0, .ref (mm 12), .ref (mm 13), .int 0, .ref (mm 14), .ref (mm 15), .ref (mm 16)])), ((mm 1), .inl (k 0, 1227, .inl f))]) [0, 1] rfl) rfl rfl rfl rfl hl.1 rfl (Nat.le_of_ble_eq_true rfl) dX8_harms_7 ⟨Nat.le_of_ble_eq_true rfl, Nat.le_of_ble_eq_true rfl⟩ (fun r_1 hr_1 => ?_)
  obtain rfl : r_1 = 0 := hr_1
  refine lv_if_ne (tgt := 16) hx hb dX8_harms_10 (by decide) (fun c9 => absurd c9 (by decide)) (fun _ => ?_)
  refine lv_bipush (v := (-2)) hx hb dX8_harms_13 (by decide) ?_
  have hP9 := hP.sub (ws' := []) [] rfl
  have hD9 := hD.sub (ws' := []) [] (by decide) rfl
  exact W.iret (v := (-2)) hx hb hr (fun t ht hW => ⟨⟨(-2), (), rfl, rfl, by rw [ht]; exact hP9, hD9⟩, hS.F ht⟩) hS.2.2 dX8_harms_15
set_option maxHeartbeats 4000000 in
set_option maxRecDepth 100000 in
theorem c_M_cat (l : Launch) (D : va_G) (k : Nat → ClassId) (mm : Nat → Nat) (f : Nat → Int32) (a : Int32) (sz : Nat) (hf0 : f 0 = 0) : Met l yX8_cat (Cond.code yX8_cat cX8_cat 2 (some .int) :: wsL_law) ({ frames := 2, cells := 0, slots := 0, locals := 120 } : Room) (va_Pc [.ref (mm 0), .int a] (pu D k sz [((mm 0), .inr (7, [.int 0, .ref (mm 1), .ref (mm 2), .ref (mm 3), .ref (mm 4), .ref (mm 5), .int 0, .int 0, .int 0, .int 0, .int 0, .int 0, .int 0, .int 0, .int 0, .int (-1), .int 0, .ref (mm 6), .int 0, .ref (mm 7), .ref (mm 8), .ref (mm 9), .int 0, .ref (mm 10), .ref (mm 11), .int 0, .int 0, .ref (mm 12), .ref (mm 13), .int 0, .ref (mm 14), .ref (mm 15), .ref (mm 16)])), ((mm 1), .inl (k 0, 1227, .inl f))])) (va_Qi (fun rr (uu : Unit) => rr = (-2)) (qu D (va_A [((mm 0), .inr (7, [.int 0, .ref (mm 1), .ref (mm 2), .ref (mm 3), .ref (mm 4), .ref (mm 5), .int 0, .int 0, .int 0, .int 0, .int 0, .int 0, .int 0, .int 0, .int 0, .int (-1), .int 0, .ref (mm 6), .int 0, .ref (mm 7), .ref (mm 8), .ref (mm 9), .int 0, .ref (mm 10), .ref (mm 11), .int 0, .int 0, .ref (mm 12), .ref (mm 13), .int 0, .ref (mm 14), .ref (mm 15), .ref (mm 16)])), ((mm 1), .inl (k 0, 1227, .inl f))] sz) (fun uu : Unit => [])) (va_A [((mm 0), .inr (7, [.int 0, .ref (mm 1), .ref (mm 2), .ref (mm 3), .ref (mm 4), .ref (mm 5), .int 0, .int 0, .int 0, .int 0, .int 0, .int 0, .int 0, .int 0, .int 0, .int (-1), .int 0, .ref (mm 6), .int 0, .ref (mm 7), .ref (mm 8), .ref (mm 9), .int 0, .ref (mm 10), .ref (mm 11), .int 0, .int 0, .ref (mm 12), .ref (mm 13), .int 0, .ref (mm 14), .ref (mm 15), .ref (mm 16)])), ((mm 1), .inl (k 0, 1227, .inl f))] sz)) 0 0 (va_A [((mm 0), .inr (7, [.int 0, .ref (mm 1), .ref (mm 2), .ref (mm 3), .ref (mm 4), .ref (mm 5), .int 0, .int 0, .int 0, .int 0, .int 0, .int 0, .int 0, .int 0, .int 0, .int (-1), .int 0, .ref (mm 6), .int 0, .ref (mm 7), .ref (mm 8), .ref (mm 9), .int 0, .ref (mm 10), .ref (mm 11), .int 0, .int 0, .ref (mm 12), .ref (mm 13), .int 0, .ref (mm 14), .ref (mm 15), .ref (mm 16)])), ((mm 1), .inl (k 0, 1227, .inl f))] sz) := by
  refine Met.ofW (cc := cX8_cat) (maxL := 2) (ret := (some .int)) (by decide) rfl ?_
  intro p e s m args below meth c s₁ B hml hv
  obtain ⟨rfl, hsz, hP, hK, hD0⟩ := hv
  have hx := B.exec
  have hb := B.bytes
  have hr := B.returns
  have hts : ∀ w ∈ wsL_law, w.before _ s = true := fun w h => atoms_spec (ws := Cond.code yX8_cat cX8_cat 2 (some .int) :: wsL_law) B.pre w (List.mem_cons_of_mem _ h)
  have hown : s.vm.findClass RX8 = some m.cls := findClass_of_methodNamed B.named
  have hlocks := B.notSynchronized
  subst hsz
  have hD := hD0.self (sz := s.heap.size)
  generalize hAe : va_A [((mm 0), .inr (7, [.int 0, .ref (mm 1), .ref (mm 2), .ref (mm 3), .ref (mm 4), .ref (mm 5), .int 0, .int 0, .int 0, .int 0, .int 0, .int 0, .int 0, .int 0, .int 0, .int (-1), .int 0, .ref (mm 6), .int 0, .ref (mm 7), .ref (mm 8), .ref (mm 9), .int 0, .ref (mm 10), .ref (mm 11), .int 0, .int 0, .ref (mm 12), .ref (mm 13), .int 0, .ref (mm 14), .ref (mm 15), .ref (mm 16)])), ((mm 1), .inl (k 0, 1227, .inl f))] s.heap.size = A at hD ⊢
  have hA : ∀ q : Nat, s.heap.size ≤ q → A q := fun q h => by rw [← hAe]; exact Or.inr h
  have hS : va_S A s.heap s.heap [] := va_S.rf
  have hP : va_P D vwCl [((mm 0), .inr (7, [.int 0, .ref (mm 1), .ref (mm 2), .ref (mm 3), .ref (mm 4), .ref (mm 5), .int 0, .int 0, .int 0, .int 0, .int 0, .int 0, .int 0, .int 0, .int 0, .int (-1), .int 0, .ref (mm 6), .int 0, .ref (mm 7), .ref (mm 8), .ref (mm 9), .int 0, .ref (mm 10), .ref (mm 11), .int 0, .int 0, .ref (mm 12), .ref (mm 13), .int 0, .ref (mm 14), .ref (mm 15), .ref (mm 16)])), ((mm 1), .inl (k 0, 1227, .inl f))] s.heap := hP
  have hl := lv_entry ([.ref (mm 0), .int a]) (n := 2) (Nat.le_of_ble_eq_true rfl)
  rw [lg_entry_eq]
  generalize (lg_sl ([.ref (mm 0), .int a]) ++ List.replicate (2 - (lg_sl ([.ref (mm 0), .int a])).length) Slot.unset).toArray = ls at hl ⊢
  have hl : lv_has ls 2 [(0, .ref (mm 0)), (1, .int a)] := hl
  refine lv_aload_n hx hb dX8_cat_0 rfl (lv_at hl 0 rfl) ?_
  refine lv_iconst (v := 0) hx hb dX8_cat_1 (by decide) ?_
  refine va_put (D := D) (ci := 7) (v := .int 0) (ty := .int) (C := RX8) (T := TX8) (N := 33) hx hb hts inlX8 tyX8 tyX8_ok nmX8 hown hK hP hD hS 0 rfl rfl 0 (by decide) (hts _ mw_125) (fun _ h9 => h9) rfl (by decide +kernel) rfl rfl (Nat.le_of_ble_eq_true rfl) dX8_cat_2 (fun H locs hP hD hS => ?_)
  have hP : va_P D vwCl [((mm 0), .inr (7, [.int 0, .ref (mm 1), .ref (mm 2), .ref (mm 3), .ref (mm 4), .ref (mm 5), .int 0, .int 0, .int 0, .int 0, .int 0, .int 0, .int 0, .int 0, .int 0, .int (-1), .int 0, .ref (mm 6), .int 0, .ref (mm 7), .ref (mm 8), .ref (mm 9), .int 0, .ref (mm 10), .ref (mm 11), .int 0, .int 0, .ref (mm 12), .ref (mm 13), .int 0, .ref (mm 14), .ref (mm 15), .ref (mm 16)])), ((mm 1), .inl (k 0, 1227, .inl f))] H := hP
  have hD : va_D A [((mm 0), .inr (7, [.int 0, .ref (mm 1), .ref (mm 2), .ref (mm 3), .ref (mm 4), .ref (mm 5), .int 0, .int 0, .int 0, .int 0, .int 0, .int 0, .int 0, .int 0, .int 0, .int (-1), .int 0, .ref (mm 6), .int 0, .ref (mm 7), .ref (mm 8), .ref (mm 9), .int 0, .ref (mm 10), .ref (mm 11), .int 0, .int 0, .ref (mm 12), .ref (mm 13), .int 0, .ref (mm 14), .ref (mm 15), .ref (mm 16)])), ((mm 1), .inl (k 0, 1227, .inl f))] := hD
  refine lv_aload_n hx hb dX8_cat_5 rfl (lv_at hl 0 rfl) ?_
  refine lv_iload_n hx hb dX8_cat_6 rfl (lv_at hl 1 rfl) ?_
  refine kV_i (q0 := 0) (As := [.int a]) (rest := []) (cs := [((mm 0), .inr (7, [.int 0, .ref (mm 1), .ref (mm 2), .ref (mm 3), .ref (mm 4), .ref (mm 5), .int 0, .int 0, .int 0, .int 0, .int 0, .int 0, .int 0, .int 0, .int 0, .int (-1), .int 0, .ref (mm 6), .int 0, .ref (mm 7), .ref (mm 8), .ref (mm 9), .int 0, .ref (mm 10), .ref (mm 11), .int 0, .int 0, .ref (mm 12), .ref (mm 13), .int 0, .ref (mm 14), .ref (mm 15), .ref (mm 16)])), ((mm 1), .inl (k 0, 1227, .inl f))]) ⟨hx, hb, hml, hown, hts⟩ (c_M_isRoof l D k _ 0 f a hf0) (gV mw_409 mw_410 mw_411 mw_5 mw_412) hd_yX8_isRoof rfl rfl ⟨Nat.le_of_ble_eq_true rfl, Nat.le_of_ble_eq_true rfl⟩ hK (hP.sub (ws' := [((mm 0), .inr (7, [.int 0, .ref (mm 1), .ref (mm 2), .ref (mm 3), .ref (mm 4), .ref (mm 5), .int 0, .int 0, .int 0, .int 0, .int 0, .int 0, .int 0, .int 0, .int 0, .int (-1), .int 0, .ref (mm 6), .int 0, .ref (mm 7), .ref (mm 8), .ref (mm 9), .int 0, .ref (mm 10), .ref (mm 11), .int 0, .int 0, .ref (mm 12), .ref (mm 13), .int 0, .ref (mm 14), .ref (mm 15), .ref (mm 16)])), ((mm 1), .inl (k 0, 1227, .inl f))]) [0, 1] rfl) rfl rfl rfl rfl hl.1 rfl (Nat.le_of_ble_eq_true rfl) dX8_cat_7 ⟨Nat.le_of_ble_eq_true rfl, Nat.le_of_ble_eq_true rfl⟩ (fun r_1 hr_1 => ?_)
  obtain rfl : r_1 = 0 := hr_1
  refine lv_if_ne (tgt := 16) hx hb dX8_cat_10 (by decide) (fun c9 => absurd c9 (by decide)) (fun _ => ?_)
  refine lv_bipush (v := (-2)) hx hb dX8_cat_13 (by decide) ?_
  have hP9 := hP.sub (ws' := []) [] rfl
  have hD9 := hD.sub (ws' := []) [] (by decide) rfl
  exact W.iret (v := (-2)) hx hb hr (fun t ht hW => ⟨⟨(-2), (), rfl, rfl, by rw [ht]; exact hP9, hD9⟩, hS.F ht⟩) hS.2.2 dX8_cat_15
set_option maxHeartbeats 4000000 in
set_option maxRecDepth 100000 in
theorem c_M_mice (l : Launch) (D : va_G) (k : Nat → ClassId) (mm : Nat → Nat) (f : Nat → Int32) (a : Int32) (x : Int32) (sz : Nat) (hf0 : f 0 = 0) : Met l yX8_mice (Cond.code yX8_mice cX8_mice 4 (some .int) :: wsL_law) ({ frames := 2, cells := 0, slots := 0, locals := 120 } : Room) (va_Pc [.ref (mm 0), .int a, .int x] (pu D k sz [((mm 0), .inr (7, [.int 0, .ref (mm 1), .ref (mm 2), .ref (mm 3), .ref (mm 4), .ref (mm 5), .int 0, .int 0, .int 0, .int 0, .int 0, .int 0, .int 0, .int 0, .int 0, .int (-1), .int 0, .ref (mm 6), .int 0, .ref (mm 7), .ref (mm 8), .ref (mm 9), .int 0, .ref (mm 10), .ref (mm 11), .int 0, .int 0, .ref (mm 12), .ref (mm 13), .int 0, .ref (mm 14), .ref (mm 15), .ref (mm 16)])), ((mm 1), .inl (k 0, 1227, .inl f))])) (va_Qi (fun rr (uu : Unit) => rr = (-2)) (qu D (va_A [((mm 0), .inr (7, [.int 0, .ref (mm 1), .ref (mm 2), .ref (mm 3), .ref (mm 4), .ref (mm 5), .int 0, .int 0, .int 0, .int 0, .int 0, .int 0, .int 0, .int 0, .int 0, .int (-1), .int 0, .ref (mm 6), .int 0, .ref (mm 7), .ref (mm 8), .ref (mm 9), .int 0, .ref (mm 10), .ref (mm 11), .int 0, .int 0, .ref (mm 12), .ref (mm 13), .int 0, .ref (mm 14), .ref (mm 15), .ref (mm 16)])), ((mm 1), .inl (k 0, 1227, .inl f))] sz) (fun uu : Unit => [])) (va_A [((mm 0), .inr (7, [.int 0, .ref (mm 1), .ref (mm 2), .ref (mm 3), .ref (mm 4), .ref (mm 5), .int 0, .int 0, .int 0, .int 0, .int 0, .int 0, .int 0, .int 0, .int 0, .int (-1), .int 0, .ref (mm 6), .int 0, .ref (mm 7), .ref (mm 8), .ref (mm 9), .int 0, .ref (mm 10), .ref (mm 11), .int 0, .int 0, .ref (mm 12), .ref (mm 13), .int 0, .ref (mm 14), .ref (mm 15), .ref (mm 16)])), ((mm 1), .inl (k 0, 1227, .inl f))] sz)) 0 0 (va_A [((mm 0), .inr (7, [.int 0, .ref (mm 1), .ref (mm 2), .ref (mm 3), .ref (mm 4), .ref (mm 5), .int 0, .int 0, .int 0, .int 0, .int 0, .int 0, .int 0, .int 0, .int 0, .int (-1), .int 0, .ref (mm 6), .int 0, .ref (mm 7), .ref (mm 8), .ref (mm 9), .int 0, .ref (mm 10), .ref (mm 11), .int 0, .int 0, .ref (mm 12), .ref (mm 13), .int 0, .ref (mm 14), .ref (mm 15), .ref (mm 16)])), ((mm 1), .inl (k 0, 1227, .inl f))] sz) := by
  refine Met.ofW (cc := cX8_mice) (maxL := 4) (ret := (some .int)) (by decide) rfl ?_
  intro p e s m args below meth c s₁ B hml hv
  obtain ⟨rfl, hsz, hP, hK, hD0⟩ := hv
  have hx := B.exec
  have hb := B.bytes
  have hr := B.returns
  have hts : ∀ w ∈ wsL_law, w.before _ s = true := fun w h => atoms_spec (ws := Cond.code yX8_mice cX8_mice 4 (some .int) :: wsL_law) B.pre w (List.mem_cons_of_mem _ h)
  have hown : s.vm.findClass RX8 = some m.cls := findClass_of_methodNamed B.named
  have hlocks := B.notSynchronized
  subst hsz
  have hD := hD0.self (sz := s.heap.size)
  generalize hAe : va_A [((mm 0), .inr (7, [.int 0, .ref (mm 1), .ref (mm 2), .ref (mm 3), .ref (mm 4), .ref (mm 5), .int 0, .int 0, .int 0, .int 0, .int 0, .int 0, .int 0, .int 0, .int 0, .int (-1), .int 0, .ref (mm 6), .int 0, .ref (mm 7), .ref (mm 8), .ref (mm 9), .int 0, .ref (mm 10), .ref (mm 11), .int 0, .int 0, .ref (mm 12), .ref (mm 13), .int 0, .ref (mm 14), .ref (mm 15), .ref (mm 16)])), ((mm 1), .inl (k 0, 1227, .inl f))] s.heap.size = A at hD ⊢
  have hA : ∀ q : Nat, s.heap.size ≤ q → A q := fun q h => by rw [← hAe]; exact Or.inr h
  have hS : va_S A s.heap s.heap [] := va_S.rf
  have hP : va_P D vwCl [((mm 0), .inr (7, [.int 0, .ref (mm 1), .ref (mm 2), .ref (mm 3), .ref (mm 4), .ref (mm 5), .int 0, .int 0, .int 0, .int 0, .int 0, .int 0, .int 0, .int 0, .int 0, .int (-1), .int 0, .ref (mm 6), .int 0, .ref (mm 7), .ref (mm 8), .ref (mm 9), .int 0, .ref (mm 10), .ref (mm 11), .int 0, .int 0, .ref (mm 12), .ref (mm 13), .int 0, .ref (mm 14), .ref (mm 15), .ref (mm 16)])), ((mm 1), .inl (k 0, 1227, .inl f))] s.heap := hP
  have hl := lv_entry ([.ref (mm 0), .int a, .int x]) (n := 4) (Nat.le_of_ble_eq_true rfl)
  rw [lg_entry_eq]
  generalize (lg_sl ([.ref (mm 0), .int a, .int x]) ++ List.replicate (4 - (lg_sl ([.ref (mm 0), .int a, .int x])).length) Slot.unset).toArray = ls at hl ⊢
  have hl : lv_has ls 4 [(0, .ref (mm 0)), (1, .int a), (2, .int x)] := hl
  refine lv_aload_n hx hb dX8_mice_0 rfl (lv_at hl 0 rfl) ?_
  refine lv_iconst (v := 0) hx hb dX8_mice_1 (by decide) ?_
  refine va_put (D := D) (ci := 7) (v := .int 0) (ty := .int) (C := RX8) (T := TX8) (N := 33) hx hb hts inlX8 tyX8 tyX8_ok nmX8 hown hK hP hD hS 0 rfl rfl 0 (by decide) (hts _ mw_125) (fun _ h9 => h9) rfl (by decide +kernel) rfl rfl (Nat.le_of_ble_eq_true rfl) dX8_mice_2 (fun H locs hP hD hS => ?_)
  have hP : va_P D vwCl [((mm 0), .inr (7, [.int 0, .ref (mm 1), .ref (mm 2), .ref (mm 3), .ref (mm 4), .ref (mm 5), .int 0, .int 0, .int 0, .int 0, .int 0, .int 0, .int 0, .int 0, .int 0, .int (-1), .int 0, .ref (mm 6), .int 0, .ref (mm 7), .ref (mm 8), .ref (mm 9), .int 0, .ref (mm 10), .ref (mm 11), .int 0, .int 0, .ref (mm 12), .ref (mm 13), .int 0, .ref (mm 14), .ref (mm 15), .ref (mm 16)])), ((mm 1), .inl (k 0, 1227, .inl f))] H := hP
  have hD : va_D A [((mm 0), .inr (7, [.int 0, .ref (mm 1), .ref (mm 2), .ref (mm 3), .ref (mm 4), .ref (mm 5), .int 0, .int 0, .int 0, .int 0, .int 0, .int 0, .int 0, .int 0, .int 0, .int (-1), .int 0, .ref (mm 6), .int 0, .ref (mm 7), .ref (mm 8), .ref (mm 9), .int 0, .ref (mm 10), .ref (mm 11), .int 0, .int 0, .ref (mm 12), .ref (mm 13), .int 0, .ref (mm 14), .ref (mm 15), .ref (mm 16)])), ((mm 1), .inl (k 0, 1227, .inl f))] := hD
  refine lv_aload_n hx hb dX8_mice_5 rfl (lv_at hl 0 rfl) ?_
  refine lv_iload_n hx hb dX8_mice_6 rfl (lv_at hl 1 rfl) ?_
  refine kV_i (q0 := 0) (As := [.int a]) (rest := []) (cs := [((mm 0), .inr (7, [.int 0, .ref (mm 1), .ref (mm 2), .ref (mm 3), .ref (mm 4), .ref (mm 5), .int 0, .int 0, .int 0, .int 0, .int 0, .int 0, .int 0, .int 0, .int 0, .int (-1), .int 0, .ref (mm 6), .int 0, .ref (mm 7), .ref (mm 8), .ref (mm 9), .int 0, .ref (mm 10), .ref (mm 11), .int 0, .int 0, .ref (mm 12), .ref (mm 13), .int 0, .ref (mm 14), .ref (mm 15), .ref (mm 16)])), ((mm 1), .inl (k 0, 1227, .inl f))]) ⟨hx, hb, hml, hown, hts⟩ (c_M_isRoof l D k _ 0 f a hf0) (gV mw_409 mw_410 mw_411 mw_5 mw_412) hd_yX8_isRoof rfl rfl ⟨Nat.le_of_ble_eq_true rfl, Nat.le_of_ble_eq_true rfl⟩ hK (hP.sub (ws' := [((mm 0), .inr (7, [.int 0, .ref (mm 1), .ref (mm 2), .ref (mm 3), .ref (mm 4), .ref (mm 5), .int 0, .int 0, .int 0, .int 0, .int 0, .int 0, .int 0, .int 0, .int 0, .int (-1), .int 0, .ref (mm 6), .int 0, .ref (mm 7), .ref (mm 8), .ref (mm 9), .int 0, .ref (mm 10), .ref (mm 11), .int 0, .int 0, .ref (mm 12), .ref (mm 13), .int 0, .ref (mm 14), .ref (mm 15), .ref (mm 16)])), ((mm 1), .inl (k 0, 1227, .inl f))]) [0, 1] rfl) rfl rfl rfl rfl hl.1 rfl (Nat.le_of_ble_eq_true rfl) dX8_mice_7 ⟨Nat.le_of_ble_eq_true rfl, Nat.le_of_ble_eq_true rfl⟩ (fun r_1 hr_1 => ?_)
  obtain rfl : r_1 = 0 := hr_1
  refine lv_if_ne (tgt := 16) hx hb dX8_mice_10 (by decide) (fun c9 => absurd c9 (by decide)) (fun _ => ?_)
  refine lv_bipush (v := (-2)) hx hb dX8_mice_13 (by decide) ?_
  have hP9 := hP.sub (ws' := []) [] rfl
  have hD9 := hD.sub (ws' := []) [] (by decide) rfl
  exact W.iret (v := (-2)) hx hb hr (fun t ht hW => ⟨⟨(-2), (), rfl, rfl, by rw [ht]; exact hP9, hD9⟩, hS.F ht⟩) hS.2.2 dX8_mice_15
set_option maxHeartbeats 4000000 in
set_option maxRecDepth 100000 in
theorem c_M_spark (l : Launch) (D : va_G) (k : Nat → ClassId) (mm : Nat → Nat) (f : Nat → Int32) (a : Int32) (sz : Nat) (hf0 : f 0 = 0) : Met l yX8_spark (Cond.code yX8_spark cX8_spark 2 (some .int) :: wsL_law) ({ frames := 2, cells := 0, slots := 0, locals := 120 } : Room) (va_Pc [.ref (mm 0), .int a] (pu D k sz [((mm 0), .inr (7, [.int 0, .ref (mm 1), .ref (mm 2), .ref (mm 3), .ref (mm 4), .ref (mm 5), .int 0, .int 0, .int 0, .int 0, .int 0, .int 0, .int 0, .int 0, .int 0, .int (-1), .int 0, .ref (mm 6), .int 0, .ref (mm 7), .ref (mm 8), .ref (mm 9), .int 0, .ref (mm 10), .ref (mm 11), .int 0, .int 0, .ref (mm 12), .ref (mm 13), .int 0, .ref (mm 14), .ref (mm 15), .ref (mm 16)])), ((mm 1), .inl (k 0, 1227, .inl f))])) (va_Qi (fun rr (uu : Unit) => rr = (-2)) (qu D (va_A [((mm 0), .inr (7, [.int 0, .ref (mm 1), .ref (mm 2), .ref (mm 3), .ref (mm 4), .ref (mm 5), .int 0, .int 0, .int 0, .int 0, .int 0, .int 0, .int 0, .int 0, .int 0, .int (-1), .int 0, .ref (mm 6), .int 0, .ref (mm 7), .ref (mm 8), .ref (mm 9), .int 0, .ref (mm 10), .ref (mm 11), .int 0, .int 0, .ref (mm 12), .ref (mm 13), .int 0, .ref (mm 14), .ref (mm 15), .ref (mm 16)])), ((mm 1), .inl (k 0, 1227, .inl f))] sz) (fun uu : Unit => [])) (va_A [((mm 0), .inr (7, [.int 0, .ref (mm 1), .ref (mm 2), .ref (mm 3), .ref (mm 4), .ref (mm 5), .int 0, .int 0, .int 0, .int 0, .int 0, .int 0, .int 0, .int 0, .int 0, .int (-1), .int 0, .ref (mm 6), .int 0, .ref (mm 7), .ref (mm 8), .ref (mm 9), .int 0, .ref (mm 10), .ref (mm 11), .int 0, .int 0, .ref (mm 12), .ref (mm 13), .int 0, .ref (mm 14), .ref (mm 15), .ref (mm 16)])), ((mm 1), .inl (k 0, 1227, .inl f))] sz)) 0 0 (va_A [((mm 0), .inr (7, [.int 0, .ref (mm 1), .ref (mm 2), .ref (mm 3), .ref (mm 4), .ref (mm 5), .int 0, .int 0, .int 0, .int 0, .int 0, .int 0, .int 0, .int 0, .int 0, .int (-1), .int 0, .ref (mm 6), .int 0, .ref (mm 7), .ref (mm 8), .ref (mm 9), .int 0, .ref (mm 10), .ref (mm 11), .int 0, .int 0, .ref (mm 12), .ref (mm 13), .int 0, .ref (mm 14), .ref (mm 15), .ref (mm 16)])), ((mm 1), .inl (k 0, 1227, .inl f))] sz) := by
  refine Met.ofW (cc := cX8_spark) (maxL := 2) (ret := (some .int)) (by decide) rfl ?_
  intro p e s m args below meth c s₁ B hml hv
  obtain ⟨rfl, hsz, hP, hK, hD0⟩ := hv
  have hx := B.exec
  have hb := B.bytes
  have hr := B.returns
  have hts : ∀ w ∈ wsL_law, w.before _ s = true := fun w h => atoms_spec (ws := Cond.code yX8_spark cX8_spark 2 (some .int) :: wsL_law) B.pre w (List.mem_cons_of_mem _ h)
  have hown : s.vm.findClass RX8 = some m.cls := findClass_of_methodNamed B.named
  have hlocks := B.notSynchronized
  subst hsz
  have hD := hD0.self (sz := s.heap.size)
  generalize hAe : va_A [((mm 0), .inr (7, [.int 0, .ref (mm 1), .ref (mm 2), .ref (mm 3), .ref (mm 4), .ref (mm 5), .int 0, .int 0, .int 0, .int 0, .int 0, .int 0, .int 0, .int 0, .int 0, .int (-1), .int 0, .ref (mm 6), .int 0, .ref (mm 7), .ref (mm 8), .ref (mm 9), .int 0, .ref (mm 10), .ref (mm 11), .int 0, .int 0, .ref (mm 12), .ref (mm 13), .int 0, .ref (mm 14), .ref (mm 15), .ref (mm 16)])), ((mm 1), .inl (k 0, 1227, .inl f))] s.heap.size = A at hD ⊢
  have hA : ∀ q : Nat, s.heap.size ≤ q → A q := fun q h => by rw [← hAe]; exact Or.inr h
  have hS : va_S A s.heap s.heap [] := va_S.rf
  have hP : va_P D vwCl [((mm 0), .inr (7, [.int 0, .ref (mm 1), .ref (mm 2), .ref (mm 3), .ref (mm 4), .ref (mm 5), .int 0, .int 0, .int 0, .int 0, .int 0, .int 0, .int 0, .int 0, .int 0, .int (-1), .int 0, .ref (mm 6), .int 0, .ref (mm 7), .ref (mm 8), .ref (mm 9), .int 0, .ref (mm 10), .ref (mm 11), .int 0, .int 0, .ref (mm 12), .ref (mm 13), .int 0, .ref (mm 14), .ref (mm 15), .ref (mm 16)])), ((mm 1), .inl (k 0, 1227, .inl f))] s.heap := hP
  have hl := lv_entry ([.ref (mm 0), .int a]) (n := 2) (Nat.le_of_ble_eq_true rfl)
  rw [lg_entry_eq]
  generalize (lg_sl ([.ref (mm 0), .int a]) ++ List.replicate (2 - (lg_sl ([.ref (mm 0), .int a])).length) Slot.unset).toArray = ls at hl ⊢
  have hl : lv_has ls 2 [(0, .ref (mm 0)), (1, .int a)] := hl
  refine lv_aload_n hx hb dX8_spark_0 rfl (lv_at hl 0 rfl) ?_
  refine lv_iconst (v := 0) hx hb dX8_spark_1 (by decide) ?_
  refine va_put (D := D) (ci := 7) (v := .int 0) (ty := .int) (C := RX8) (T := TX8) (N := 33) hx hb hts inlX8 tyX8 tyX8_ok nmX8 hown hK hP hD hS 0 rfl rfl 0 (by decide) (hts _ mw_125) (fun _ h9 => h9) rfl (by decide +kernel) rfl rfl (Nat.le_of_ble_eq_true rfl) dX8_spark_2 (fun H locs hP hD hS => ?_)
  have hP : va_P D vwCl [((mm 0), .inr (7, [.int 0, .ref (mm 1), .ref (mm 2), .ref (mm 3), .ref (mm 4), .ref (mm 5), .int 0, .int 0, .int 0, .int 0, .int 0, .int 0, .int 0, .int 0, .int 0, .int (-1), .int 0, .ref (mm 6), .int 0, .ref (mm 7), .ref (mm 8), .ref (mm 9), .int 0, .ref (mm 10), .ref (mm 11), .int 0, .int 0, .ref (mm 12), .ref (mm 13), .int 0, .ref (mm 14), .ref (mm 15), .ref (mm 16)])), ((mm 1), .inl (k 0, 1227, .inl f))] H := hP
  have hD : va_D A [((mm 0), .inr (7, [.int 0, .ref (mm 1), .ref (mm 2), .ref (mm 3), .ref (mm 4), .ref (mm 5), .int 0, .int 0, .int 0, .int 0, .int 0, .int 0, .int 0, .int 0, .int 0, .int (-1), .int 0, .ref (mm 6), .int 0, .ref (mm 7), .ref (mm 8), .ref (mm 9), .int 0, .ref (mm 10), .ref (mm 11), .int 0, .int 0, .ref (mm 12), .ref (mm 13), .int 0, .ref (mm 14), .ref (mm 15), .ref (mm 16)])), ((mm 1), .inl (k 0, 1227, .inl f))] := hD
  refine lv_aload_n hx hb dX8_spark_5 rfl (lv_at hl 0 rfl) ?_
  refine lv_iload_n hx hb dX8_spark_6 rfl (lv_at hl 1 rfl) ?_
  refine kV_i (q0 := 0) (As := [.int a]) (rest := []) (cs := [((mm 0), .inr (7, [.int 0, .ref (mm 1), .ref (mm 2), .ref (mm 3), .ref (mm 4), .ref (mm 5), .int 0, .int 0, .int 0, .int 0, .int 0, .int 0, .int 0, .int 0, .int 0, .int (-1), .int 0, .ref (mm 6), .int 0, .ref (mm 7), .ref (mm 8), .ref (mm 9), .int 0, .ref (mm 10), .ref (mm 11), .int 0, .int 0, .ref (mm 12), .ref (mm 13), .int 0, .ref (mm 14), .ref (mm 15), .ref (mm 16)])), ((mm 1), .inl (k 0, 1227, .inl f))]) ⟨hx, hb, hml, hown, hts⟩ (c_M_isRoof l D k _ 0 f a hf0) (gV mw_409 mw_410 mw_411 mw_5 mw_412) hd_yX8_isRoof rfl rfl ⟨Nat.le_of_ble_eq_true rfl, Nat.le_of_ble_eq_true rfl⟩ hK (hP.sub (ws' := [((mm 0), .inr (7, [.int 0, .ref (mm 1), .ref (mm 2), .ref (mm 3), .ref (mm 4), .ref (mm 5), .int 0, .int 0, .int 0, .int 0, .int 0, .int 0, .int 0, .int 0, .int 0, .int (-1), .int 0, .ref (mm 6), .int 0, .ref (mm 7), .ref (mm 8), .ref (mm 9), .int 0, .ref (mm 10), .ref (mm 11), .int 0, .int 0, .ref (mm 12), .ref (mm 13), .int 0, .ref (mm 14), .ref (mm 15), .ref (mm 16)])), ((mm 1), .inl (k 0, 1227, .inl f))]) [0, 1] rfl) rfl rfl rfl rfl hl.1 rfl (Nat.le_of_ble_eq_true rfl) dX8_spark_7 ⟨Nat.le_of_ble_eq_true rfl, Nat.le_of_ble_eq_true rfl⟩ (fun r_1 hr_1 => ?_)
  obtain rfl : r_1 = 0 := hr_1
  refine lv_if_ne (tgt := 16) hx hb dX8_spark_10 (by decide) (fun c9 => absurd c9 (by decide)) (fun _ => ?_)
  refine lv_bipush (v := (-2)) hx hb dX8_spark_13 (by decide) ?_
  have hP9 := hP.sub (ws' := []) [] rfl
  have hD9 := hD.sub (ws' := []) [] (by decide) rfl
  exact W.iret (v := (-2)) hx hb hr (fun t ht hW => ⟨⟨(-2), (), rfl, rfl, by rw [ht]; exact hP9, hD9⟩, hS.F ht⟩) hS.2.2 dX8_spark_15
set_option maxHeartbeats 4000000 in
set_option maxRecDepth 100000 in
theorem c_M_copy (l : Launch) (D : va_G) (k : Nat → ClassId) (mm : Nat → Nat) (f : Nat → Int32) (a : Int32) (x : Int32) (sz : Nat) (hf0 : f 0 = 0) : Met l yX8_copy (Cond.code yX8_copy cX8_copy 5 (some .int) :: wsL_law) ({ frames := 2, cells := 0, slots := 0, locals := 120 } : Room) (va_Pc [.ref (mm 0), .int a, .int x] (pu D k sz [((mm 0), .inr (7, [.int 0, .ref (mm 1), .ref (mm 2), .ref (mm 3), .ref (mm 4), .ref (mm 5), .int 0, .int 0, .int 0, .int 0, .int 0, .int 0, .int 0, .int 0, .int 0, .int (-1), .int 0, .ref (mm 6), .int 0, .ref (mm 7), .ref (mm 8), .ref (mm 9), .int 0, .ref (mm 10), .ref (mm 11), .int 0, .int 0, .ref (mm 12), .ref (mm 13), .int 0, .ref (mm 14), .ref (mm 15), .ref (mm 16)])), ((mm 1), .inl (k 0, 1227, .inl f))])) (va_Qi (fun rr (uu : Unit) => rr = (-2)) (qu D (va_A [((mm 0), .inr (7, [.int 0, .ref (mm 1), .ref (mm 2), .ref (mm 3), .ref (mm 4), .ref (mm 5), .int 0, .int 0, .int 0, .int 0, .int 0, .int 0, .int 0, .int 0, .int 0, .int (-1), .int 0, .ref (mm 6), .int 0, .ref (mm 7), .ref (mm 8), .ref (mm 9), .int 0, .ref (mm 10), .ref (mm 11), .int 0, .int 0, .ref (mm 12), .ref (mm 13), .int 0, .ref (mm 14), .ref (mm 15), .ref (mm 16)])), ((mm 1), .inl (k 0, 1227, .inl f))] sz) (fun uu : Unit => [])) (va_A [((mm 0), .inr (7, [.int 0, .ref (mm 1), .ref (mm 2), .ref (mm 3), .ref (mm 4), .ref (mm 5), .int 0, .int 0, .int 0, .int 0, .int 0, .int 0, .int 0, .int 0, .int 0, .int (-1), .int 0, .ref (mm 6), .int 0, .ref (mm 7), .ref (mm 8), .ref (mm 9), .int 0, .ref (mm 10), .ref (mm 11), .int 0, .int 0, .ref (mm 12), .ref (mm 13), .int 0, .ref (mm 14), .ref (mm 15), .ref (mm 16)])), ((mm 1), .inl (k 0, 1227, .inl f))] sz)) 0 0 (va_A [((mm 0), .inr (7, [.int 0, .ref (mm 1), .ref (mm 2), .ref (mm 3), .ref (mm 4), .ref (mm 5), .int 0, .int 0, .int 0, .int 0, .int 0, .int 0, .int 0, .int 0, .int 0, .int (-1), .int 0, .ref (mm 6), .int 0, .ref (mm 7), .ref (mm 8), .ref (mm 9), .int 0, .ref (mm 10), .ref (mm 11), .int 0, .int 0, .ref (mm 12), .ref (mm 13), .int 0, .ref (mm 14), .ref (mm 15), .ref (mm 16)])), ((mm 1), .inl (k 0, 1227, .inl f))] sz) := by
  refine Met.ofW (cc := cX8_copy) (maxL := 5) (ret := (some .int)) (by decide) rfl ?_
  intro p e s m args below meth c s₁ B hml hv
  obtain ⟨rfl, hsz, hP, hK, hD0⟩ := hv
  have hx := B.exec
  have hb := B.bytes
  have hr := B.returns
  have hts : ∀ w ∈ wsL_law, w.before _ s = true := fun w h => atoms_spec (ws := Cond.code yX8_copy cX8_copy 5 (some .int) :: wsL_law) B.pre w (List.mem_cons_of_mem _ h)
  have hown : s.vm.findClass RX8 = some m.cls := findClass_of_methodNamed B.named
  have hlocks := B.notSynchronized
  subst hsz
  have hD := hD0.self (sz := s.heap.size)
  generalize hAe : va_A [((mm 0), .inr (7, [.int 0, .ref (mm 1), .ref (mm 2), .ref (mm 3), .ref (mm 4), .ref (mm 5), .int 0, .int 0, .int 0, .int 0, .int 0, .int 0, .int 0, .int 0, .int 0, .int (-1), .int 0, .ref (mm 6), .int 0, .ref (mm 7), .ref (mm 8), .ref (mm 9), .int 0, .ref (mm 10), .ref (mm 11), .int 0, .int 0, .ref (mm 12), .ref (mm 13), .int 0, .ref (mm 14), .ref (mm 15), .ref (mm 16)])), ((mm 1), .inl (k 0, 1227, .inl f))] s.heap.size = A at hD ⊢
  have hA : ∀ q : Nat, s.heap.size ≤ q → A q := fun q h => by rw [← hAe]; exact Or.inr h
  have hS : va_S A s.heap s.heap [] := va_S.rf
  have hP : va_P D vwCl [((mm 0), .inr (7, [.int 0, .ref (mm 1), .ref (mm 2), .ref (mm 3), .ref (mm 4), .ref (mm 5), .int 0, .int 0, .int 0, .int 0, .int 0, .int 0, .int 0, .int 0, .int 0, .int (-1), .int 0, .ref (mm 6), .int 0, .ref (mm 7), .ref (mm 8), .ref (mm 9), .int 0, .ref (mm 10), .ref (mm 11), .int 0, .int 0, .ref (mm 12), .ref (mm 13), .int 0, .ref (mm 14), .ref (mm 15), .ref (mm 16)])), ((mm 1), .inl (k 0, 1227, .inl f))] s.heap := hP
  have hl := lv_entry ([.ref (mm 0), .int a, .int x]) (n := 5) (Nat.le_of_ble_eq_true rfl)
  rw [lg_entry_eq]
  generalize (lg_sl ([.ref (mm 0), .int a, .int x]) ++ List.replicate (5 - (lg_sl ([.ref (mm 0), .int a, .int x])).length) Slot.unset).toArray = ls at hl ⊢
  have hl : lv_has ls 5 [(0, .ref (mm 0)), (1, .int a), (2, .int x)] := hl
  refine lv_aload_n hx hb dX8_copy_0 rfl (lv_at hl 0 rfl) ?_
  refine lv_iconst (v := 0) hx hb dX8_copy_1 (by decide) ?_
  refine va_put (D := D) (ci := 7) (v := .int 0) (ty := .int) (C := RX8) (T := TX8) (N := 33) hx hb hts inlX8 tyX8 tyX8_ok nmX8 hown hK hP hD hS 0 rfl rfl 0 (by decide) (hts _ mw_125) (fun _ h9 => h9) rfl (by decide +kernel) rfl rfl (Nat.le_of_ble_eq_true rfl) dX8_copy_2 (fun H locs hP hD hS => ?_)
  have hP : va_P D vwCl [((mm 0), .inr (7, [.int 0, .ref (mm 1), .ref (mm 2), .ref (mm 3), .ref (mm 4), .ref (mm 5), .int 0, .int 0, .int 0, .int 0, .int 0, .int 0, .int 0, .int 0, .int 0, .int (-1), .int 0, .ref (mm 6), .int 0, .ref (mm 7), .ref (mm 8), .ref (mm 9), .int 0, .ref (mm 10), .ref (mm 11), .int 0, .int 0, .ref (mm 12), .ref (mm 13), .int 0, .ref (mm 14), .ref (mm 15), .ref (mm 16)])), ((mm 1), .inl (k 0, 1227, .inl f))] H := hP
  have hD : va_D A [((mm 0), .inr (7, [.int 0, .ref (mm 1), .ref (mm 2), .ref (mm 3), .ref (mm 4), .ref (mm 5), .int 0, .int 0, .int 0, .int 0, .int 0, .int 0, .int 0, .int 0, .int 0, .int (-1), .int 0, .ref (mm 6), .int 0, .ref (mm 7), .ref (mm 8), .ref (mm 9), .int 0, .ref (mm 10), .ref (mm 11), .int 0, .int 0, .ref (mm 12), .ref (mm 13), .int 0, .ref (mm 14), .ref (mm 15), .ref (mm 16)])), ((mm 1), .inl (k 0, 1227, .inl f))] := hD
  refine lv_aload_n hx hb dX8_copy_5 rfl (lv_at hl 0 rfl) ?_
  refine lv_iload_n hx hb dX8_copy_6 rfl (lv_at hl 1 rfl) ?_
  refine kV_i (q0 := 0) (As := [.int a]) (rest := []) (cs := [((mm 0), .inr (7, [.int 0, .ref (mm 1), .ref (mm 2), .ref (mm 3), .ref (mm 4), .ref (mm 5), .int 0, .int 0, .int 0, .int 0, .int 0, .int 0, .int 0, .int 0, .int 0, .int (-1), .int 0, .ref (mm 6), .int 0, .ref (mm 7), .ref (mm 8), .ref (mm 9), .int 0, .ref (mm 10), .ref (mm 11), .int 0, .int 0, .ref (mm 12), .ref (mm 13), .int 0, .ref (mm 14), .ref (mm 15), .ref (mm 16)])), ((mm 1), .inl (k 0, 1227, .inl f))]) ⟨hx, hb, hml, hown, hts⟩ (c_M_isRoof l D k _ 0 f a hf0) (gV mw_409 mw_410 mw_411 mw_5 mw_412) hd_yX8_isRoof rfl rfl ⟨Nat.le_of_ble_eq_true rfl, Nat.le_of_ble_eq_true rfl⟩ hK (hP.sub (ws' := [((mm 0), .inr (7, [.int 0, .ref (mm 1), .ref (mm 2), .ref (mm 3), .ref (mm 4), .ref (mm 5), .int 0, .int 0, .int 0, .int 0, .int 0, .int 0, .int 0, .int 0, .int 0, .int (-1), .int 0, .ref (mm 6), .int 0, .ref (mm 7), .ref (mm 8), .ref (mm 9), .int 0, .ref (mm 10), .ref (mm 11), .int 0, .int 0, .ref (mm 12), .ref (mm 13), .int 0, .ref (mm 14), .ref (mm 15), .ref (mm 16)])), ((mm 1), .inl (k 0, 1227, .inl f))]) [0, 1] rfl) rfl rfl rfl rfl hl.1 rfl (Nat.le_of_ble_eq_true rfl) dX8_copy_7 ⟨Nat.le_of_ble_eq_true rfl, Nat.le_of_ble_eq_true rfl⟩ (fun r_1 hr_1 => ?_)
  obtain rfl : r_1 = 0 := hr_1
  refine lv_if_eq (tgt := 25) hx hb dX8_copy_10 (by decide) (fun _ => ?_) (fun c9 => absurd c9 (by decide))
  refine lv_bipush (v := (-2)) hx hb dX8_copy_25 (by decide) ?_
  have hP9 := hP.sub (ws' := []) [] rfl
  have hD9 := hD.sub (ws' := []) [] (by decide) rfl
  exact W.iret (v := (-2)) hx hb hr (fun t ht hW => ⟨⟨(-2), (), rfl, rfl, by rw [ht]; exact hP9, hD9⟩, hS.F ht⟩) hS.2.2 dX8_copy_27
set_option maxHeartbeats 4000000 in
set_option maxRecDepth 100000 in
theorem c_M_odds (l : Launch) (D : va_G) (k : Nat → ClassId) (mm : Nat → Nat) (f : Nat → Int32) (a : Int32) (x : Int32) (sz : Nat) (hf0 : f 0 = 0) : Met l yX8_odds (Cond.code yX8_odds cX8_odds 3 (some .long) :: wsL_law) ({ frames := 2, cells := 0, slots := 0, locals := 120 } : Room) (va_Pc [.ref (mm 0), .int a, .int x] (pu D k sz [((mm 0), .inr (7, [.int 0, .ref (mm 1), .ref (mm 2), .ref (mm 3), .ref (mm 4), .ref (mm 5), .int 0, .int 0, .int 0, .int 0, .int 0, .int 0, .int 0, .int 0, .int 0, .int (-1), .int 0, .ref (mm 6), .int 0, .ref (mm 7), .ref (mm 8), .ref (mm 9), .int 0, .ref (mm 10), .ref (mm 11), .int 0, .int 0, .ref (mm 12), .ref (mm 13), .int 0, .ref (mm 14), .ref (mm 15), .ref (mm 16)])), ((mm 1), .inl (k 0, 1227, .inl f))])) (va_Ql (fun rr (uu : Unit) => rr = (-2)) (qu D (va_A [((mm 0), .inr (7, [.int 0, .ref (mm 1), .ref (mm 2), .ref (mm 3), .ref (mm 4), .ref (mm 5), .int 0, .int 0, .int 0, .int 0, .int 0, .int 0, .int 0, .int 0, .int 0, .int (-1), .int 0, .ref (mm 6), .int 0, .ref (mm 7), .ref (mm 8), .ref (mm 9), .int 0, .ref (mm 10), .ref (mm 11), .int 0, .int 0, .ref (mm 12), .ref (mm 13), .int 0, .ref (mm 14), .ref (mm 15), .ref (mm 16)])), ((mm 1), .inl (k 0, 1227, .inl f))] sz) (fun uu : Unit => [])) (va_A [((mm 0), .inr (7, [.int 0, .ref (mm 1), .ref (mm 2), .ref (mm 3), .ref (mm 4), .ref (mm 5), .int 0, .int 0, .int 0, .int 0, .int 0, .int 0, .int 0, .int 0, .int 0, .int (-1), .int 0, .ref (mm 6), .int 0, .ref (mm 7), .ref (mm 8), .ref (mm 9), .int 0, .ref (mm 10), .ref (mm 11), .int 0, .int 0, .ref (mm 12), .ref (mm 13), .int 0, .ref (mm 14), .ref (mm 15), .ref (mm 16)])), ((mm 1), .inl (k 0, 1227, .inl f))] sz)) 0 0 (va_A [((mm 0), .inr (7, [.int 0, .ref (mm 1), .ref (mm 2), .ref (mm 3), .ref (mm 4), .ref (mm 5), .int 0, .int 0, .int 0, .int 0, .int 0, .int 0, .int 0, .int 0, .int 0, .int (-1), .int 0, .ref (mm 6), .int 0, .ref (mm 7), .ref (mm 8), .ref (mm 9), .int 0, .ref (mm 10), .ref (mm 11), .int 0, .int 0, .ref (mm 12), .ref (mm 13), .int 0, .ref (mm 14), .ref (mm 15), .ref (mm 16)])), ((mm 1), .inl (k 0, 1227, .inl f))] sz) := by
  refine Met.ofW (cc := cX8_odds) (maxL := 3) (ret := (some .long)) (by decide) rfl ?_
  intro p e s m args below meth c s₁ B hml hv
  obtain ⟨rfl, hsz, hP, hK, hD0⟩ := hv
  have hx := B.exec
  have hb := B.bytes
  have hr := B.returns
  have hts : ∀ w ∈ wsL_law, w.before _ s = true := fun w h => atoms_spec (ws := Cond.code yX8_odds cX8_odds 3 (some .long) :: wsL_law) B.pre w (List.mem_cons_of_mem _ h)
  have hown : s.vm.findClass RX8 = some m.cls := findClass_of_methodNamed B.named
  have hlocks := B.notSynchronized
  subst hsz
  have hD := hD0.self (sz := s.heap.size)
  generalize hAe : va_A [((mm 0), .inr (7, [.int 0, .ref (mm 1), .ref (mm 2), .ref (mm 3), .ref (mm 4), .ref (mm 5), .int 0, .int 0, .int 0, .int 0, .int 0, .int 0, .int 0, .int 0, .int 0, .int (-1), .int 0, .ref (mm 6), .int 0, .ref (mm 7), .ref (mm 8), .ref (mm 9), .int 0, .ref (mm 10), .ref (mm 11), .int 0, .int 0, .ref (mm 12), .ref (mm 13), .int 0, .ref (mm 14), .ref (mm 15), .ref (mm 16)])), ((mm 1), .inl (k 0, 1227, .inl f))] s.heap.size = A at hD ⊢
  have hA : ∀ q : Nat, s.heap.size ≤ q → A q := fun q h => by rw [← hAe]; exact Or.inr h
  have hS : va_S A s.heap s.heap [] := va_S.rf
  have hP : va_P D vwCl [((mm 0), .inr (7, [.int 0, .ref (mm 1), .ref (mm 2), .ref (mm 3), .ref (mm 4), .ref (mm 5), .int 0, .int 0, .int 0, .int 0, .int 0, .int 0, .int 0, .int 0, .int 0, .int (-1), .int 0, .ref (mm 6), .int 0, .ref (mm 7), .ref (mm 8), .ref (mm 9), .int 0, .ref (mm 10), .ref (mm 11), .int 0, .int 0, .ref (mm 12), .ref (mm 13), .int 0, .ref (mm 14), .ref (mm 15), .ref (mm 16)])), ((mm 1), .inl (k 0, 1227, .inl f))] s.heap := hP
  have hl := lv_entry ([.ref (mm 0), .int a, .int x]) (n := 3) (Nat.le_of_ble_eq_true rfl)
  rw [lg_entry_eq]
  generalize (lg_sl ([.ref (mm 0), .int a, .int x]) ++ List.replicate (3 - (lg_sl ([.ref (mm 0), .int a, .int x])).length) Slot.unset).toArray = ls at hl ⊢
  have hl : lv_has ls 3 [(0, .ref (mm 0)), (1, .int a), (2, .int x)] := hl
  refine lv_aload_n hx hb dX8_odds_0 rfl (lv_at hl 0 rfl) ?_
  refine lv_iconst (v := 0) hx hb dX8_odds_1 (by decide) ?_
  refine va_put (D := D) (ci := 7) (v := .int 0) (ty := .int) (C := RX8) (T := TX8) (N := 33) hx hb hts inlX8 tyX8 tyX8_ok nmX8 hown hK hP hD hS 0 rfl rfl 0 (by decide) (hts _ mw_125) (fun _ h9 => h9) rfl (by decide +kernel) rfl rfl (Nat.le_of_ble_eq_true rfl) dX8_odds_2 (fun H locs hP hD hS => ?_)
  have hP : va_P D vwCl [((mm 0), .inr (7, [.int 0, .ref (mm 1), .ref (mm 2), .ref (mm 3), .ref (mm 4), .ref (mm 5), .int 0, .int 0, .int 0, .int 0, .int 0, .int 0, .int 0, .int 0, .int 0, .int (-1), .int 0, .ref (mm 6), .int 0, .ref (mm 7), .ref (mm 8), .ref (mm 9), .int 0, .ref (mm 10), .ref (mm 11), .int 0, .int 0, .ref (mm 12), .ref (mm 13), .int 0, .ref (mm 14), .ref (mm 15), .ref (mm 16)])), ((mm 1), .inl (k 0, 1227, .inl f))] H := hP
  have hD : va_D A [((mm 0), .inr (7, [.int 0, .ref (mm 1), .ref (mm 2), .ref (mm 3), .ref (mm 4), .ref (mm 5), .int 0, .int 0, .int 0, .int 0, .int 0, .int 0, .int 0, .int 0, .int 0, .int (-1), .int 0, .ref (mm 6), .int 0, .ref (mm 7), .ref (mm 8), .ref (mm 9), .int 0, .ref (mm 10), .ref (mm 11), .int 0, .int 0, .ref (mm 12), .ref (mm 13), .int 0, .ref (mm 14), .ref (mm 15), .ref (mm 16)])), ((mm 1), .inl (k 0, 1227, .inl f))] := hD
  refine lv_aload_n hx hb dX8_odds_5 rfl (lv_at hl 0 rfl) ?_
  refine lv_iload_n hx hb dX8_odds_6 rfl (lv_at hl 1 rfl) ?_
  refine kV_i (q0 := 0) (As := [.int a]) (rest := []) (cs := [((mm 0), .inr (7, [.int 0, .ref (mm 1), .ref (mm 2), .ref (mm 3), .ref (mm 4), .ref (mm 5), .int 0, .int 0, .int 0, .int 0, .int 0, .int 0, .int 0, .int 0, .int 0, .int (-1), .int 0, .ref (mm 6), .int 0, .ref (mm 7), .ref (mm 8), .ref (mm 9), .int 0, .ref (mm 10), .ref (mm 11), .int 0, .int 0, .ref (mm 12), .ref (mm 13), .int 0, .ref (mm 14), .ref (mm 15), .ref (mm 16)])), ((mm 1), .inl (k 0, 1227, .inl f))]) ⟨hx, hb, hml, hown, hts⟩ (c_M_isRoof l D k _ 0 f a hf0) (gV mw_409 mw_410 mw_411 mw_5 mw_412) hd_yX8_isRoof rfl rfl ⟨Nat.le_of_ble_eq_true rfl, Nat.le_of_ble_eq_true rfl⟩ hK (hP.sub (ws' := [((mm 0), .inr (7, [.int 0, .ref (mm 1), .ref (mm 2), .ref (mm 3), .ref (mm 4), .ref (mm 5), .int 0, .int 0, .int 0, .int 0, .int 0, .int 0, .int 0, .int 0, .int 0, .int (-1), .int 0, .ref (mm 6), .int 0, .ref (mm 7), .ref (mm 8), .ref (mm 9), .int 0, .ref (mm 10), .ref (mm 11), .int 0, .int 0, .ref (mm 12), .ref (mm 13), .int 0, .ref (mm 14), .ref (mm 15), .ref (mm 16)])), ((mm 1), .inl (k 0, 1227, .inl f))]) [0, 1] rfl) rfl rfl rfl rfl hl.1 rfl (Nat.le_of_ble_eq_true rfl) dX8_odds_7 ⟨Nat.le_of_ble_eq_true rfl, Nat.le_of_ble_eq_true rfl⟩ (fun r_1 hr_1 => ?_)
  obtain rfl : r_1 = 0 := hr_1
  refine lv_if_ne (tgt := 17) hx hb dX8_odds_10 (by decide) (fun c9 => absurd c9 (by decide)) (fun _ => ?_)
  refine lv_ldc2 (own := RX8) (index := 284) (v := (-2)) hx hb hown (hts _ mw_941) dX8_odds_13 ?_
  have hP9 := hP.sub (ws' := []) [] rfl
  have hD9 := hD.sub (ws' := []) [] (by decide) rfl
  exact W.lret (v := (-2)) hx hb hr (fun t ht hW => ⟨⟨(-2), (), rfl, rfl, by rw [ht]; exact hP9, hD9⟩, hS.F ht⟩) hS.2.2 dX8_odds_16
set_option maxHeartbeats 4000000 in
set_option maxRecDepth 100000 in
theorem c_M_year (l : Launch) (D : va_G) (k : Nat → ClassId) (mm : Nat → Nat) (f : Nat → Int32) (a : Int32) (sz : Nat) (hf0 : f 0 = 0) (hf1 : f 1 = 0) : Met l yX8_year (Cond.code yX8_year cX8_year 3 (some .int) :: wsL_law) ({ frames := 3, cells := 0, slots := 0, locals := 180 } : Room) (va_Pc [.ref (mm 0), .int a] (pu D k sz [((mm 0), .inr (7, [.int 0, .ref (mm 1), .ref (mm 2), .ref (mm 3), .ref (mm 4), .ref (mm 5), .int 0, .int 0, .int 0, .int 0, .int 0, .int 0, .int 0, .int 0, .int 0, .int (-1), .int 0, .ref (mm 6), .int 0, .ref (mm 7), .ref (mm 8), .ref (mm 9), .int 0, .ref (mm 10), .ref (mm 11), .int 0, .int 0, .ref (mm 12), .ref (mm 13), .int 0, .ref (mm 14), .ref (mm 15), .ref (mm 16)])), ((mm 1), .inl (k 0, 1227, .inl f)), ((mm 2), .inl (k 0, 409, .inl (fun _ => 0)))])) (va_Qi (fun rr (uu : Unit) => rr = if a.toInt = 0 then 0 else (-3)) (qu D (va_A [((mm 0), .inr (7, [.int 0, .ref (mm 1), .ref (mm 2), .ref (mm 3), .ref (mm 4), .ref (mm 5), .int 0, .int 0, .int 0, .int 0, .int 0, .int 0, .int 0, .int 0, .int 0, .int (-1), .int 0, .ref (mm 6), .int 0, .ref (mm 7), .ref (mm 8), .ref (mm 9), .int 0, .ref (mm 10), .ref (mm 11), .int 0, .int 0, .ref (mm 12), .ref (mm 13), .int 0, .ref (mm 14), .ref (mm 15), .ref (mm 16)])), ((mm 1), .inl (k 0, 1227, .inl f)), ((mm 2), .inl (k 0, 409, .inl (fun _ => 0)))] sz) (fun uu : Unit => [])) (va_A [((mm 0), .inr (7, [.int 0, .ref (mm 1), .ref (mm 2), .ref (mm 3), .ref (mm 4), .ref (mm 5), .int 0, .int 0, .int 0, .int 0, .int 0, .int 0, .int 0, .int 0, .int 0, .int (-1), .int 0, .ref (mm 6), .int 0, .ref (mm 7), .ref (mm 8), .ref (mm 9), .int 0, .ref (mm 10), .ref (mm 11), .int 0, .int 0, .ref (mm 12), .ref (mm 13), .int 0, .ref (mm 14), .ref (mm 15), .ref (mm 16)])), ((mm 1), .inl (k 0, 1227, .inl f)), ((mm 2), .inl (k 0, 409, .inl (fun _ => 0)))] sz)) 0 0 (va_A [((mm 0), .inr (7, [.int 0, .ref (mm 1), .ref (mm 2), .ref (mm 3), .ref (mm 4), .ref (mm 5), .int 0, .int 0, .int 0, .int 0, .int 0, .int 0, .int 0, .int 0, .int 0, .int (-1), .int 0, .ref (mm 6), .int 0, .ref (mm 7), .ref (mm 8), .ref (mm 9), .int 0, .ref (mm 10), .ref (mm 11), .int 0, .int 0, .ref (mm 12), .ref (mm 13), .int 0, .ref (mm 14), .ref (mm 15), .ref (mm 16)])), ((mm 1), .inl (k 0, 1227, .inl f)), ((mm 2), .inl (k 0, 409, .inl (fun _ => 0)))] sz) := by
  refine Met.ofW (cc := cX8_year) (maxL := 3) (ret := (some .int)) (by decide) rfl ?_
  intro p e s m args below meth c s₁ B hml hv
  obtain ⟨rfl, hsz, hP, hK, hD0⟩ := hv
  have hx := B.exec
  have hb := B.bytes
  have hr := B.returns
  have hts : ∀ w ∈ wsL_law, w.before _ s = true := fun w h => atoms_spec (ws := Cond.code yX8_year cX8_year 3 (some .int) :: wsL_law) B.pre w (List.mem_cons_of_mem _ h)
  have hown : s.vm.findClass RX8 = some m.cls := findClass_of_methodNamed B.named
  have hlocks := B.notSynchronized
  subst hsz
  have hD := hD0.self (sz := s.heap.size)
  generalize hAe : va_A [((mm 0), .inr (7, [.int 0, .ref (mm 1), .ref (mm 2), .ref (mm 3), .ref (mm 4), .ref (mm 5), .int 0, .int 0, .int 0, .int 0, .int 0, .int 0, .int 0, .int 0, .int 0, .int (-1), .int 0, .ref (mm 6), .int 0, .ref (mm 7), .ref (mm 8), .ref (mm 9), .int 0, .ref (mm 10), .ref (mm 11), .int 0, .int 0, .ref (mm 12), .ref (mm 13), .int 0, .ref (mm 14), .ref (mm 15), .ref (mm 16)])), ((mm 1), .inl (k 0, 1227, .inl f)), ((mm 2), .inl (k 0, 409, .inl (fun _ => 0)))] s.heap.size = A at hD ⊢
  have hA : ∀ q : Nat, s.heap.size ≤ q → A q := fun q h => by rw [← hAe]; exact Or.inr h
  have hS : va_S A s.heap s.heap [] := va_S.rf
  have hP : va_P D vwCl [((mm 0), .inr (7, [.int 0, .ref (mm 1), .ref (mm 2), .ref (mm 3), .ref (mm 4), .ref (mm 5), .int 0, .int 0, .int 0, .int 0, .int 0, .int 0, .int 0, .int 0, .int 0, .int (-1), .int 0, .ref (mm 6), .int 0, .ref (mm 7), .ref (mm 8), .ref (mm 9), .int 0, .ref (mm 10), .ref (mm 11), .int 0, .int 0, .ref (mm 12), .ref (mm 13), .int 0, .ref (mm 14), .ref (mm 15), .ref (mm 16)])), ((mm 1), .inl (k 0, 1227, .inl f)), ((mm 2), .inl (k 0, 409, .inl (fun _ => 0)))] s.heap := hP
  have hl := lv_entry ([.ref (mm 0), .int a]) (n := 3) (Nat.le_of_ble_eq_true rfl)
  rw [lg_entry_eq]
  generalize (lg_sl ([.ref (mm 0), .int a]) ++ List.replicate (3 - (lg_sl ([.ref (mm 0), .int a])).length) Slot.unset).toArray = ls at hl ⊢
  have hl : lv_has ls 3 [(0, .ref (mm 0)), (1, .int a)] := hl
  refine lv_aload_n hx hb dX8_year_0 rfl (lv_at hl 0 rfl) ?_
  refine lv_iconst (v := 0) hx hb dX8_year_1 (by decide) ?_
  refine va_put (D := D) (ci := 7) (v := .int 0) (ty := .int) (C := RX8) (T := TX8) (N := 33) hx hb hts inlX8 tyX8 tyX8_ok nmX8 hown hK hP hD hS 0 rfl rfl 0 (by decide) (hts _ mw_125) (fun _ h9 => h9) rfl (by decide +kernel) rfl rfl (Nat.le_of_ble_eq_true rfl) dX8_year_2 (fun H locs hP hD hS => ?_)
  have hP : va_P D vwCl [((mm 0), .inr (7, [.int 0, .ref (mm 1), .ref (mm 2), .ref (mm 3), .ref (mm 4), .ref (mm 5), .int 0, .int 0, .int 0, .int 0, .int 0, .int 0, .int 0, .int 0, .int 0, .int (-1), .int 0, .ref (mm 6), .int 0, .ref (mm 7), .ref (mm 8), .ref (mm 9), .int 0, .ref (mm 10), .ref (mm 11), .int 0, .int 0, .ref (mm 12), .ref (mm 13), .int 0, .ref (mm 14), .ref (mm 15), .ref (mm 16)])), ((mm 1), .inl (k 0, 1227, .inl f)), ((mm 2), .inl (k 0, 409, .inl (fun _ => 0)))] H := hP
  have hD : va_D A [((mm 0), .inr (7, [.int 0, .ref (mm 1), .ref (mm 2), .ref (mm 3), .ref (mm 4), .ref (mm 5), .int 0, .int 0, .int 0, .int 0, .int 0, .int 0, .int 0, .int 0, .int 0, .int (-1), .int 0, .ref (mm 6), .int 0, .ref (mm 7), .ref (mm 8), .ref (mm 9), .int 0, .ref (mm 10), .ref (mm 11), .int 0, .int 0, .ref (mm 12), .ref (mm 13), .int 0, .ref (mm 14), .ref (mm 15), .ref (mm 16)])), ((mm 1), .inl (k 0, 1227, .inl f)), ((mm 2), .inl (k 0, 409, .inl (fun _ => 0)))] := hD
  refine lv_aload_n hx hb dX8_year_5 rfl (lv_at hl 0 rfl) ?_
  refine lv_iload_n hx hb dX8_year_6 rfl (lv_at hl 1 rfl) ?_
  refine lv_i2l (v := a.toInt64) hx hb dX8_year_7 rfl ?_
  refine kV_i (q0 := 0) (As := [.long a.toInt64]) (rest := []) (cs := [((mm 0), .inr (7, [.int 0, .ref (mm 1), .ref (mm 2), .ref (mm 3), .ref (mm 4), .ref (mm 5), .int 0, .int 0, .int 0, .int 0, .int 0, .int 0, .int 0, .int 0, .int 0, .int (-1), .int 0, .ref (mm 6), .int 0, .ref (mm 7), .ref (mm 8), .ref (mm 9), .int 0, .ref (mm 10), .ref (mm 11), .int 0, .int 0, .ref (mm 12), .ref (mm 13), .int 0, .ref (mm 14), .ref (mm 15), .ref (mm 16)])), ((mm 1), .inl (k 0, 1227, .inl f))]) ⟨hx, hb, hml, hown, hts⟩ (c_M_refuses l D k _ 0 f a hf0 hf1) (gV mw_514 mw_515 mw_516 mw_5 mw_517) hd_yX8_refuses rfl rfl ⟨Nat.le_of_ble_eq_true rfl, Nat.le_of_ble_eq_true rfl⟩ hK (hP.sub (ws' := [((mm 0), .inr (7, [.int 0, .ref (mm 1), .ref (mm 2), .ref (mm 3), .ref (mm 4), .ref (mm 5), .int 0, .int 0, .int 0, .int 0, .int 0, .int 0, .int 0, .int 0, .int 0, .int (-1), .int 0, .ref (mm 6), .int 0, .ref (mm 7), .ref (mm 8), .ref (mm 9), .int 0, .ref (mm 10), .ref (mm 11), .int 0, .int 0, .ref (mm 12), .ref (mm 13), .int 0, .ref (mm 14), .ref (mm 15), .ref (mm 16)])), ((mm 1), .inl (k 0, 1227, .inl f))]) [0, 1] rfl) rfl rfl rfl rfl hl.1 rfl (Nat.le_of_ble_eq_true rfl) dX8_year_8 ⟨Nat.le_of_ble_eq_true rfl, Nat.le_of_ble_eq_true rfl⟩ (fun r_1 hr_1 => ?_)
  by_cases hc_2 : a.toInt = 0
  · obtain rfl : r_1 = 0 := hr_1.trans (if_pos hc_2)
    have q_3 : a = 0 := ti_of (show a.toInt = 0 from by omega)
    refine lv_istore_n (lv' := [(2, .int 0), (0, .ref (mm 0)), (1, .int a)]) hx hb dX8_year_11 rfl hl (by decide) rfl (fun ls hl => ?_)
    refine lv_iload_n hx hb dX8_year_12 rfl (lv_at hl 0 rfl) ?_
    refine lv_if_eq (tgt := 29) hx hb dX8_year_13 (by decide) (fun _ => ?_) (fun c9 => absurd c9 (by decide))
    refine lv_aload_n hx hb dX8_year_29 rfl (lv_at hl 1 rfl) ?_
    refine lv_iload_n hx hb dX8_year_30 rfl (lv_at hl 2 rfl) ?_
    refine lv_ni (v := 0) (q_3) ?_
    refine kV_uv (q0 := 0) (As := [.int 0]) (rest := []) (wc := [((mm 0), .inr (7, [.int 0, .ref (mm 1), .ref (mm 2), .ref (mm 3), .ref (mm 4), .ref (mm 5), .int 0, .int 0, .int 0, .int 0, .int 0, .int 0, .int 0, .int 0, .int 0, .int (-1), .int 0, .ref (mm 6), .int 0, .ref (mm 7), .ref (mm 8), .ref (mm 9), .int 0, .ref (mm 10), .ref (mm 11), .int 0, .int 0, .ref (mm 12), .ref (mm 13), .int 0, .ref (mm 14), .ref (mm 15), .ref (mm 16)])), ((mm 1), .inl (k 0, 1227, .inl f)), ((mm 2), .inl (k 0, 409, .inl (fun _ => 0)))]) (wr := []) ⟨hx, hb, hml, hown, hts⟩ (c_M_goes l D k _ 0 f (fun _ => 0) 0 _ hf0 rfl) (gV mw_526 mw_527 mw_528 mw_5 mw_529) hd_yX8_goes rfl rfl ⟨Nat.le_of_ble_eq_true rfl, Nat.le_of_ble_eq_true rfl⟩ hK hP hD hS hA [0, 1, 2] [] rfl rfl (by decide) (by decide) (by decide) rfl rfl rfl rfl hl.1 rfl (Nat.le_of_ble_eq_true rfl) dX8_year_31 ⟨Nat.le_of_ble_eq_true rfl, Nat.le_of_ble_eq_true rfl⟩ (fun u_5 H locs hw hP hD hS => ?_)
    obtain ⟨v_6, v_7⟩ := u_5
    obtain ⟨h_8, h_9⟩ := hw
    have h_8 : v_6 0 = 0 := h_8
    have h_9 : v_7 0 = 0 := h_9
    have hP : va_P D vwCl [((mm 0), .inr (7, [.int 0, .ref (mm 1), .ref (mm 2), .ref (mm 3), .ref (mm 4), .ref (mm 5), .int 0, .int 0, .int 0, .int 0, .int 0, .int 0, .int 0, .int 0, .int 0, .int (-1), .int 0, .ref (mm 6), .int 0, .ref (mm 7), .ref (mm 8), .ref (mm 9), .int 0, .ref (mm 10), .ref (mm 11), .int 0, .int 0, .ref (mm 12), .ref (mm 13), .int 0, .ref (mm 14), .ref (mm 15), .ref (mm 16)])), ((mm 1), .inl (k 0, 1227, .inl v_6)), ((mm 2), .inl (k 0, 409, .inl v_7))] H := hP
    have hD : va_D A [((mm 0), .inr (7, [.int 0, .ref (mm 1), .ref (mm 2), .ref (mm 3), .ref (mm 4), .ref (mm 5), .int 0, .int 0, .int 0, .int 0, .int 0, .int 0, .int 0, .int 0, .int 0, .int (-1), .int 0, .ref (mm 6), .int 0, .ref (mm 7), .ref (mm 8), .ref (mm 9), .int 0, .ref (mm 10), .ref (mm 11), .int 0, .int 0, .ref (mm 12), .ref (mm 13), .int 0, .ref (mm 14), .ref (mm 15), .ref (mm 16)])), ((mm 1), .inl (k 0, 1227, .inl v_6)), ((mm 2), .inl (k 0, 409, .inl v_7))] := hD
    refine lv_aload_n hx hb dX8_year_34 rfl (lv_at hl 1 rfl) ?_
    refine kV_i (q0 := 0) (As := []) (rest := []) (cs := [((mm 0), .inr (7, [.int 0, .ref (mm 1), .ref (mm 2), .ref (mm 3), .ref (mm 4), .ref (mm 5), .int 0, .int 0, .int 0, .int 0, .int 0, .int 0, .int 0, .int 0, .int 0, .int (-1), .int 0, .ref (mm 6), .int 0, .ref (mm 7), .ref (mm 8), .ref (mm 9), .int 0, .ref (mm 10), .ref (mm 11), .int 0, .int 0, .ref (mm 12), .ref (mm 13), .int 0, .ref (mm 14), .ref (mm 15), .ref (mm 16)])), ((mm 1), .inl (k 0, 1227, .inl v_6))]) ⟨hx, hb, hml, hown, hts⟩ (c_M_dripping l D k _ 0 v_6 h_8) (gV mw_544 mw_545 mw_546 mw_5 mw_547) hd_yX8_dripping rfl rfl ⟨Nat.le_of_ble_eq_true rfl, Nat.le_of_ble_eq_true rfl⟩ hK (hP.sub (ws' := [((mm 0), .inr (7, [.int 0, .ref (mm 1), .ref (mm 2), .ref (mm 3), .ref (mm 4), .ref (mm 5), .int 0, .int 0, .int 0, .int 0, .int 0, .int 0, .int 0, .int 0, .int 0, .int (-1), .int 0, .ref (mm 6), .int 0, .ref (mm 7), .ref (mm 8), .ref (mm 9), .int 0, .ref (mm 10), .ref (mm 11), .int 0, .int 0, .ref (mm 12), .ref (mm 13), .int 0, .ref (mm 14), .ref (mm 15), .ref (mm 16)])), ((mm 1), .inl (k 0, 1227, .inl v_6))]) [0, 1] rfl) rfl rfl rfl rfl hl.1 rfl (Nat.le_of_ble_eq_true rfl) dX8_year_35 ⟨Nat.le_of_ble_eq_true rfl, Nat.le_of_ble_eq_true rfl⟩ (fun r_10 hr_10 => ?_)
    obtain rfl : r_10 = 0 := hr_10
    have hP9 := hP.sub (ws' := []) [] rfl
    have hD9 := hD.sub (ws' := []) [] (by decide) rfl
    exact W.iret (v := 0) hx hb hr (fun t ht hW => ⟨⟨0, (), rfl, (by (repeat' split) <;> first | rfl | (exfalso; omega)), by rw [ht]; exact hP9, hD9⟩, hS.F ht⟩) hS.2.2 dX8_year_38
  have hr_1 := hr_1.trans (if_neg hc_2)
  obtain rfl : r_1 = 1 := hr_1
  refine lv_istore_n (lv' := [(2, .int 1), (0, .ref (mm 0)), (1, .int a)]) hx hb dX8_year_11 rfl hl (by decide) rfl (fun ls hl => ?_)
  refine lv_iload_n hx hb dX8_year_12 rfl (lv_at hl 0 rfl) ?_
  refine lv_if_eq (tgt := 29) hx hb dX8_year_13 (by decide) (fun c9 => absurd c9 (by decide)) (fun _ => ?_)
  refine lv_iload_n hx hb dX8_year_16 rfl (lv_at hl 0 rfl) ?_
  refine lv_iconst (v := 3) hx hb dX8_year_17 (by decide) ?_
  refine lv_icmp_ne (tgt := 26) hx hb dX8_year_18 (by decide) (fun _ => ?_) (fun c9 => absurd c9 (by decide))
  refine lv_bipush (v := (-3)) hx hb dX8_year_26 (by decide) ?_
  have hP9 := hP.sub (ws' := []) [] rfl
  have hD9 := hD.sub (ws' := []) [] (by decide) rfl
  exact W.iret (v := (-3)) hx hb hr (fun t ht hW => ⟨⟨(-3), (), rfl, (by (repeat' split) <;> first | rfl | (exfalso; omega)), by rw [ht]; exact hP9, hD9⟩, hS.F ht⟩) hS.2.2 dX8_year_28
set_option maxHeartbeats 4000000 in
set_option maxRecDepth 100000 in
theorem c_M_rain (l : Launch) (D : va_G) (k : Nat → ClassId) (mm : Nat → Nat) (f : Nat → Int32) (sz : Nat) (hf0 : f 0 = 0) : Met l yX8_rain (Cond.code yX8_rain cX8_rain 1 (some .int) :: wsL_law) ({ frames := 1, cells := 0, slots := 0, locals := 60 } : Room) (va_Pc [.ref (mm 0)] (pu D k sz [((mm 0), .inr (7, [.int 0, .ref (mm 1), .ref (mm 2), .ref (mm 3), .ref (mm 4), .ref (mm 5), .int 0, .int 0, .int 0, .int 0, .int 0, .int 0, .int 0, .int 0, .int 0, .int (-1), .int 0, .ref (mm 6), .int 0, .ref (mm 7), .ref (mm 8), .ref (mm 9), .int 0, .ref (mm 10), .ref (mm 11), .int 0, .int 0, .ref (mm 12), .ref (mm 13), .int 0, .ref (mm 14), .ref (mm 15), .ref (mm 16)])), ((mm 1), .inl (k 0, 1227, .inl f))])) (va_Qi (fun rr (uu : Unit) => rr = 0) (qu D (va_A [((mm 0), .inr (7, [.int 0, .ref (mm 1), .ref (mm 2), .ref (mm 3), .ref (mm 4), .ref (mm 5), .int 0, .int 0, .int 0, .int 0, .int 0, .int 0, .int 0, .int 0, .int 0, .int (-1), .int 0, .ref (mm 6), .int 0, .ref (mm 7), .ref (mm 8), .ref (mm 9), .int 0, .ref (mm 10), .ref (mm 11), .int 0, .int 0, .ref (mm 12), .ref (mm 13), .int 0, .ref (mm 14), .ref (mm 15), .ref (mm 16)])), ((mm 1), .inl (k 0, 1227, .inl f))] sz) (fun uu : Unit => [])) (va_A [((mm 0), .inr (7, [.int 0, .ref (mm 1), .ref (mm 2), .ref (mm 3), .ref (mm 4), .ref (mm 5), .int 0, .int 0, .int 0, .int 0, .int 0, .int 0, .int 0, .int 0, .int 0, .int (-1), .int 0, .ref (mm 6), .int 0, .ref (mm 7), .ref (mm 8), .ref (mm 9), .int 0, .ref (mm 10), .ref (mm 11), .int 0, .int 0, .ref (mm 12), .ref (mm 13), .int 0, .ref (mm 14), .ref (mm 15), .ref (mm 16)])), ((mm 1), .inl (k 0, 1227, .inl f))] sz)) 0 0 (va_A [((mm 0), .inr (7, [.int 0, .ref (mm 1), .ref (mm 2), .ref (mm 3), .ref (mm 4), .ref (mm 5), .int 0, .int 0, .int 0, .int 0, .int 0, .int 0, .int 0, .int 0, .int 0, .int (-1), .int 0, .ref (mm 6), .int 0, .ref (mm 7), .ref (mm 8), .ref (mm 9), .int 0, .ref (mm 10), .ref (mm 11), .int 0, .int 0, .ref (mm 12), .ref (mm 13), .int 0, .ref (mm 14), .ref (mm 15), .ref (mm 16)])), ((mm 1), .inl (k 0, 1227, .inl f))] sz) := by
  refine Met.ofW (cc := cX8_rain) (maxL := 1) (ret := (some .int)) (by decide) rfl ?_
  intro p e s m args below meth c s₁ B hml hv
  obtain ⟨rfl, hsz, hP, hK, hD0⟩ := hv
  have hx := B.exec
  have hb := B.bytes
  have hr := B.returns
  have hts : ∀ w ∈ wsL_law, w.before _ s = true := fun w h => atoms_spec (ws := Cond.code yX8_rain cX8_rain 1 (some .int) :: wsL_law) B.pre w (List.mem_cons_of_mem _ h)
  have hown : s.vm.findClass RX8 = some m.cls := findClass_of_methodNamed B.named
  have hlocks := B.notSynchronized
  subst hsz
  have hD := hD0.self (sz := s.heap.size)
  generalize hAe : va_A [((mm 0), .inr (7, [.int 0, .ref (mm 1), .ref (mm 2), .ref (mm 3), .ref (mm 4), .ref (mm 5), .int 0, .int 0, .int 0, .int 0, .int 0, .int 0, .int 0, .int 0, .int 0, .int (-1), .int 0, .ref (mm 6), .int 0, .ref (mm 7), .ref (mm 8), .ref (mm 9), .int 0, .ref (mm 10), .ref (mm 11), .int 0, .int 0, .ref (mm 12), .ref (mm 13), .int 0, .ref (mm 14), .ref (mm 15), .ref (mm 16)])), ((mm 1), .inl (k 0, 1227, .inl f))] s.heap.size = A at hD ⊢
  have hA : ∀ q : Nat, s.heap.size ≤ q → A q := fun q h => by rw [← hAe]; exact Or.inr h
  have hS : va_S A s.heap s.heap [] := va_S.rf
  have hP : va_P D vwCl [((mm 0), .inr (7, [.int 0, .ref (mm 1), .ref (mm 2), .ref (mm 3), .ref (mm 4), .ref (mm 5), .int 0, .int 0, .int 0, .int 0, .int 0, .int 0, .int 0, .int 0, .int 0, .int (-1), .int 0, .ref (mm 6), .int 0, .ref (mm 7), .ref (mm 8), .ref (mm 9), .int 0, .ref (mm 10), .ref (mm 11), .int 0, .int 0, .ref (mm 12), .ref (mm 13), .int 0, .ref (mm 14), .ref (mm 15), .ref (mm 16)])), ((mm 1), .inl (k 0, 1227, .inl f))] s.heap := hP
  have hl := lv_entry ([.ref (mm 0)]) (n := 1) (Nat.le_of_ble_eq_true rfl)
  rw [lg_entry_eq]
  generalize (lg_sl ([.ref (mm 0)]) ++ List.replicate (1 - (lg_sl ([.ref (mm 0)])).length) Slot.unset).toArray = ls at hl ⊢
  have hl : lv_has ls 1 [(0, .ref (mm 0))] := hl
  refine lv_aload_n hx hb dX8_rain_0 rfl (lv_at hl 0 rfl) ?_
  refine lv_iconst (v := 0) hx hb dX8_rain_1 (by decide) ?_
  refine va_put (D := D) (ci := 7) (v := .int 0) (ty := .int) (C := RX8) (T := TX8) (N := 33) hx hb hts inlX8 tyX8 tyX8_ok nmX8 hown hK hP hD hS 0 rfl rfl 0 (by decide) (hts _ mw_125) (fun _ h9 => h9) rfl (by decide +kernel) rfl rfl (Nat.le_of_ble_eq_true rfl) dX8_rain_2 (fun H locs hP hD hS => ?_)
  have hP : va_P D vwCl [((mm 0), .inr (7, [.int 0, .ref (mm 1), .ref (mm 2), .ref (mm 3), .ref (mm 4), .ref (mm 5), .int 0, .int 0, .int 0, .int 0, .int 0, .int 0, .int 0, .int 0, .int 0, .int (-1), .int 0, .ref (mm 6), .int 0, .ref (mm 7), .ref (mm 8), .ref (mm 9), .int 0, .ref (mm 10), .ref (mm 11), .int 0, .int 0, .ref (mm 12), .ref (mm 13), .int 0, .ref (mm 14), .ref (mm 15), .ref (mm 16)])), ((mm 1), .inl (k 0, 1227, .inl f))] H := hP
  have hD : va_D A [((mm 0), .inr (7, [.int 0, .ref (mm 1), .ref (mm 2), .ref (mm 3), .ref (mm 4), .ref (mm 5), .int 0, .int 0, .int 0, .int 0, .int 0, .int 0, .int 0, .int 0, .int 0, .int (-1), .int 0, .ref (mm 6), .int 0, .ref (mm 7), .ref (mm 8), .ref (mm 9), .int 0, .ref (mm 10), .ref (mm 11), .int 0, .int 0, .ref (mm 12), .ref (mm 13), .int 0, .ref (mm 14), .ref (mm 15), .ref (mm 16)])), ((mm 1), .inl (k 0, 1227, .inl f))] := hD
  refine lv_aload_n hx hb dX8_rain_5 rfl (lv_at hl 0 rfl) ?_
  refine kV_i (q0 := 0) (As := []) (rest := []) (cs := [((mm 0), .inr (7, [.int 0, .ref (mm 1), .ref (mm 2), .ref (mm 3), .ref (mm 4), .ref (mm 5), .int 0, .int 0, .int 0, .int 0, .int 0, .int 0, .int 0, .int 0, .int 0, .int (-1), .int 0, .ref (mm 6), .int 0, .ref (mm 7), .ref (mm 8), .ref (mm 9), .int 0, .ref (mm 10), .ref (mm 11), .int 0, .int 0, .ref (mm 12), .ref (mm 13), .int 0, .ref (mm 14), .ref (mm 15), .ref (mm 16)])), ((mm 1), .inl (k 0, 1227, .inl f))]) ⟨hx, hb, hml, hown, hts⟩ (c_M_rains l D k _ 0 f hf0) (gV mw_562 mw_563 mw_564 mw_5 mw_565) hd_yX8_rains rfl rfl ⟨Nat.le_of_ble_eq_true rfl, Nat.le_of_ble_eq_true rfl⟩ hK (hP.sub (ws' := [((mm 0), .inr (7, [.int 0, .ref (mm 1), .ref (mm 2), .ref (mm 3), .ref (mm 4), .ref (mm 5), .int 0, .int 0, .int 0, .int 0, .int 0, .int 0, .int 0, .int 0, .int 0, .int (-1), .int 0, .ref (mm 6), .int 0, .ref (mm 7), .ref (mm 8), .ref (mm 9), .int 0, .ref (mm 10), .ref (mm 11), .int 0, .int 0, .ref (mm 12), .ref (mm 13), .int 0, .ref (mm 14), .ref (mm 15), .ref (mm 16)])), ((mm 1), .inl (k 0, 1227, .inl f))]) [0, 1] rfl) rfl rfl rfl rfl hl.1 rfl (Nat.le_of_ble_eq_true rfl) dX8_rain_6 ⟨Nat.le_of_ble_eq_true rfl, Nat.le_of_ble_eq_true rfl⟩ (fun r_1 hr_1 => ?_)
  obtain rfl : r_1 = 0 := hr_1
  have hP9 := hP.sub (ws' := []) [] rfl
  have hD9 := hD.sub (ws' := []) [] (by decide) rfl
  exact W.iret (v := 0) hx hb hr (fun t ht hW => ⟨⟨0, (), rfl, rfl, by rw [ht]; exact hP9, hD9⟩, hS.F ht⟩) hS.2.2 dX8_rain_9
set_option maxHeartbeats 4000000 in
set_option maxRecDepth 100000 in
theorem c_M_judge (l : Launch) (D : va_G) (k : Nat → ClassId) (mm : Nat → Nat) (rs : Nat → Int32) (a : Int32) (x : Int32) (sz : Nat) (hs0 : rs 0 = -1) (hs1 : rs 1 = -1) (hs2 : rs 2 = -1) (hs3 : rs 3 = -1) : Met l yX8_judge (Cond.code yX8_judge cX8_judge 6 (some .int) :: wsL_law) ({ frames := 1, cells := 0, slots := 0, locals := 60 } : Room) (va_Pc [.ref (mm 0), .int a, .int x] (pu D k sz [((mm 0), .inr (7, [.int 0, .ref (mm 1), .ref (mm 2), .ref (mm 3), .ref (mm 4), .ref (mm 5), .int 0, .int 0, .int 0, .int 0, .int 0, .int 0, .int 0, .int 0, .int 0, .int (-1), .int 0, .ref (mm 6), .int 0, .ref (mm 7), .ref (mm 8), .ref (mm 9), .int 0, .ref (mm 10), .ref (mm 11), .int 0, .int 0, .ref (mm 12), .ref (mm 13), .int 0, .ref (mm 14), .ref (mm 15), .ref (mm 16)])), ((mm 14), .inl (k 0, 4, .inl rs))])) (va_Qi (fun rr (uu : Unit) => rr = if (0 ≤ a.toInt ∧ a.toInt ≤ 3) ∧ 0 ≤ x.toInt ∧ x.toInt ≤ 3 then (-6) else (-2)) (qu D (va_A [((mm 0), .inr (7, [.int 0, .ref (mm 1), .ref (mm 2), .ref (mm 3), .ref (mm 4), .ref (mm 5), .int 0, .int 0, .int 0, .int 0, .int 0, .int 0, .int 0, .int 0, .int 0, .int (-1), .int 0, .ref (mm 6), .int 0, .ref (mm 7), .ref (mm 8), .ref (mm 9), .int 0, .ref (mm 10), .ref (mm 11), .int 0, .int 0, .ref (mm 12), .ref (mm 13), .int 0, .ref (mm 14), .ref (mm 15), .ref (mm 16)])), ((mm 14), .inl (k 0, 4, .inl rs))] sz) (fun uu : Unit => [])) (va_A [((mm 0), .inr (7, [.int 0, .ref (mm 1), .ref (mm 2), .ref (mm 3), .ref (mm 4), .ref (mm 5), .int 0, .int 0, .int 0, .int 0, .int 0, .int 0, .int 0, .int 0, .int 0, .int (-1), .int 0, .ref (mm 6), .int 0, .ref (mm 7), .ref (mm 8), .ref (mm 9), .int 0, .ref (mm 10), .ref (mm 11), .int 0, .int 0, .ref (mm 12), .ref (mm 13), .int 0, .ref (mm 14), .ref (mm 15), .ref (mm 16)])), ((mm 14), .inl (k 0, 4, .inl rs))] sz)) 0 0 (va_A [((mm 0), .inr (7, [.int 0, .ref (mm 1), .ref (mm 2), .ref (mm 3), .ref (mm 4), .ref (mm 5), .int 0, .int 0, .int 0, .int 0, .int 0, .int 0, .int 0, .int 0, .int 0, .int (-1), .int 0, .ref (mm 6), .int 0, .ref (mm 7), .ref (mm 8), .ref (mm 9), .int 0, .ref (mm 10), .ref (mm 11), .int 0, .int 0, .ref (mm 12), .ref (mm 13), .int 0, .ref (mm 14), .ref (mm 15), .ref (mm 16)])), ((mm 14), .inl (k 0, 4, .inl rs))] sz) := by
  refine Met.ofW (cc := cX8_judge) (maxL := 6) (ret := (some .int)) (by decide) rfl ?_
  intro p e s m args below meth c s₁ B hml hv
  obtain ⟨rfl, hsz, hP, hK, hD0⟩ := hv
  have hx := B.exec
  have hb := B.bytes
  have hr := B.returns
  have hts : ∀ w ∈ wsL_law, w.before _ s = true := fun w h => atoms_spec (ws := Cond.code yX8_judge cX8_judge 6 (some .int) :: wsL_law) B.pre w (List.mem_cons_of_mem _ h)
  have hown : s.vm.findClass RX8 = some m.cls := findClass_of_methodNamed B.named
  have hlocks := B.notSynchronized
  subst hsz
  have hD := hD0.self (sz := s.heap.size)
  generalize hAe : va_A [((mm 0), .inr (7, [.int 0, .ref (mm 1), .ref (mm 2), .ref (mm 3), .ref (mm 4), .ref (mm 5), .int 0, .int 0, .int 0, .int 0, .int 0, .int 0, .int 0, .int 0, .int 0, .int (-1), .int 0, .ref (mm 6), .int 0, .ref (mm 7), .ref (mm 8), .ref (mm 9), .int 0, .ref (mm 10), .ref (mm 11), .int 0, .int 0, .ref (mm 12), .ref (mm 13), .int 0, .ref (mm 14), .ref (mm 15), .ref (mm 16)])), ((mm 14), .inl (k 0, 4, .inl rs))] s.heap.size = A at hD ⊢
  have hA : ∀ q : Nat, s.heap.size ≤ q → A q := fun q h => by rw [← hAe]; exact Or.inr h
  have hS : va_S A s.heap s.heap [] := va_S.rf
  have hP : va_P D vwCl [((mm 0), .inr (7, [.int 0, .ref (mm 1), .ref (mm 2), .ref (mm 3), .ref (mm 4), .ref (mm 5), .int 0, .int 0, .int 0, .int 0, .int 0, .int 0, .int 0, .int 0, .int 0, .int (-1), .int 0, .ref (mm 6), .int 0, .ref (mm 7), .ref (mm 8), .ref (mm 9), .int 0, .ref (mm 10), .ref (mm 11), .int 0, .int 0, .ref (mm 12), .ref (mm 13), .int 0, .ref (mm 14), .ref (mm 15), .ref (mm 16)])), ((mm 14), .inl (k 0, 4, .inl rs))] s.heap := hP
  have hl := lv_entry ([.ref (mm 0), .int a, .int x]) (n := 6) (Nat.le_of_ble_eq_true rfl)
  rw [lg_entry_eq]
  generalize (lg_sl ([.ref (mm 0), .int a, .int x]) ++ List.replicate (6 - (lg_sl ([.ref (mm 0), .int a, .int x])).length) Slot.unset).toArray = ls at hl ⊢
  have hl : lv_has ls 6 [(0, .ref (mm 0)), (1, .int a), (2, .int x)] := hl
  refine lv_aload_n hx hb dX8_judge_0 rfl (lv_at hl 0 rfl) ?_
  refine lv_iconst (v := 0) hx hb dX8_judge_1 (by decide) ?_
  refine va_put (D := D) (ci := 7) (v := .int 0) (ty := .int) (C := RX8) (T := TX8) (N := 33) hx hb hts inlX8 tyX8 tyX8_ok nmX8 hown hK hP hD hS 0 rfl rfl 0 (by decide) (hts _ mw_125) (fun _ h9 => h9) rfl (by decide +kernel) rfl rfl (Nat.le_of_ble_eq_true rfl) dX8_judge_2 (fun H locs hP hD hS => ?_)
  have hP : va_P D vwCl [((mm 0), .inr (7, [.int 0, .ref (mm 1), .ref (mm 2), .ref (mm 3), .ref (mm 4), .ref (mm 5), .int 0, .int 0, .int 0, .int 0, .int 0, .int 0, .int 0, .int 0, .int 0, .int (-1), .int 0, .ref (mm 6), .int 0, .ref (mm 7), .ref (mm 8), .ref (mm 9), .int 0, .ref (mm 10), .ref (mm 11), .int 0, .int 0, .ref (mm 12), .ref (mm 13), .int 0, .ref (mm 14), .ref (mm 15), .ref (mm 16)])), ((mm 14), .inl (k 0, 4, .inl rs))] H := hP
  have hD : va_D A [((mm 0), .inr (7, [.int 0, .ref (mm 1), .ref (mm 2), .ref (mm 3), .ref (mm 4), .ref (mm 5), .int 0, .int 0, .int 0, .int 0, .int 0, .int 0, .int 0, .int 0, .int 0, .int (-1), .int 0, .ref (mm 6), .int 0, .ref (mm 7), .ref (mm 8), .ref (mm 9), .int 0, .ref (mm 10), .ref (mm 11), .int 0, .int 0, .ref (mm 12), .ref (mm 13), .int 0, .ref (mm 14), .ref (mm 15), .ref (mm 16)])), ((mm 14), .inl (k 0, 4, .inl rs))] := hD
  refine lv_iload_n hx hb dX8_judge_5 rfl (lv_at hl 1 rfl) ?_
  refine lv_i2l (v := a.toInt64) hx hb dX8_judge_6 rfl ?_
  refine lv_lconst (v := 0) hx hb dX8_judge_7 (by decide) ?_
  refine lv_ldc2 (own := RX8) (index := 220) (v := 3) hx hb hown (hts _ mw_592) dX8_judge_8 ?_
  refine kS_i (As := [.long a.toInt64, .long 0, .long 3]) (rest := []) (cs := []) ⟨hx, hb, hml, hown, hts⟩ (c_M_within l D k a 0 3) (gS mw_294 mw_295 mw_5 mw_296) hd_yX8_within rfl rfl ⟨Nat.le_of_ble_eq_true rfl, Nat.le_of_ble_eq_true rfl⟩ hK (hP.sub (ws' := []) [] rfl) rfl hl.1 rfl (Nat.le_of_ble_eq_true rfl) dX8_judge_11 ⟨Nat.le_of_ble_eq_true rfl, Nat.le_of_ble_eq_true rfl⟩ (fun r_1 hr_1 => ?_)
  by_cases hc_2 : 0 ≤ a.toInt ∧ a.toInt ≤ 3
  · obtain rfl : r_1 = 1 := hr_1.trans (if_pos hc_2)
    refine lv_if_eq (tgt := 29) hx hb dX8_judge_14 (by decide) (fun c9 => absurd c9 (by decide)) (fun _ => ?_)
    refine lv_iload_n hx hb dX8_judge_17 rfl (lv_at hl 2 rfl) ?_
    refine lv_i2l (v := x.toInt64) hx hb dX8_judge_18 rfl ?_
    refine lv_lconst (v := 0) hx hb dX8_judge_19 (by decide) ?_
    refine lv_ldc2 (own := RX8) (index := 220) (v := 3) hx hb hown (hts _ mw_592) dX8_judge_20 ?_
    refine kS_i (As := [.long x.toInt64, .long 0, .long 3]) (rest := []) (cs := []) ⟨hx, hb, hml, hown, hts⟩ (c_M_within l D k x 0 3) (gS mw_294 mw_295 mw_5 mw_296) hd_yX8_within rfl rfl ⟨Nat.le_of_ble_eq_true rfl, Nat.le_of_ble_eq_true rfl⟩ hK (hP.sub (ws' := []) [] rfl) rfl hl.1 rfl (Nat.le_of_ble_eq_true rfl) dX8_judge_23 ⟨Nat.le_of_ble_eq_true rfl, Nat.le_of_ble_eq_true rfl⟩ (fun r_3 hr_3 => ?_)
    by_cases hc_4 : 0 ≤ x.toInt ∧ x.toInt ≤ 3
    · obtain rfl : r_3 = 1 := hr_3.trans (if_pos hc_4)
      refine lv_if_ne (tgt := 32) hx hb dX8_judge_26 (by decide) (fun _ => ?_) (fun c9 => absurd c9 (by decide))
      refine lv_aload_n hx hb dX8_judge_32 rfl (lv_at hl 0 rfl) ?_
      refine va_get (D := D) (ci := 7) (v := .ref (mm 14)) (C := RX8) (T := TX8) (N := 33) hx hb hts inlX8 hown hK hP 0 rfl rfl 30 (by decide) (hts _ mw_105) (fun _ h9 => h9) rfl dX8_judge_33 ?_
      refine lv_iload_n hx hb dX8_judge_36 rfl (lv_at hl 1 rfl) ?_
      rcases (show a.toInt = 0 ∨ a.toInt = 1 ∨ a.toInt = 2 ∨ a.toInt = 3 from by omega) with c_5 | c_6 | c_7 | c_8
      · have qc_5 : a = 0 := ti_of (show a.toInt = 0 from c_5)
        refine lv_ni (v := 0) qc_5 ?_
        refine va_iald hx hb hK hP 1 0 rfl rfl (vp_in_c (by decide)) dX8_judge_37 ?_
        refine lv_ni (v := (-1)) (hs0) ?_
        refine lv_iconst (v := (-1)) hx hb dX8_judge_38 (by decide) ?_
        refine lv_icmp_ne (tgt := 45) hx hb dX8_judge_39 (by decide) (fun c9 => absurd c9 (by decide)) (fun _ => ?_)
        refine lv_bipush (v := (-6)) hx hb dX8_judge_42 (by decide) ?_
        have hP9 := hP.sub (ws' := []) [] rfl
        have hD9 := hD.sub (ws' := []) [] (by decide) rfl
        exact W.iret (v := (-6)) hx hb hr (fun t ht hW => ⟨⟨(-6), (), rfl, (by (repeat' split) <;> first | rfl | (exfalso; omega)), by rw [ht]; exact hP9, hD9⟩, hS.F ht⟩) hS.2.2 dX8_judge_44
      · have qc_6 : a = 1 := ti_of (show a.toInt = 1 from c_6)
        refine lv_ni (v := 1) qc_6 ?_
        refine va_iald hx hb hK hP 1 0 rfl rfl (vp_in_c (by decide)) dX8_judge_37 ?_
        refine lv_ni (v := (-1)) (hs1) ?_
        refine lv_iconst (v := (-1)) hx hb dX8_judge_38 (by decide) ?_
        refine lv_icmp_ne (tgt := 45) hx hb dX8_judge_39 (by decide) (fun c9 => absurd c9 (by decide)) (fun _ => ?_)
        refine lv_bipush (v := (-6)) hx hb dX8_judge_42 (by decide) ?_
        have hP9 := hP.sub (ws' := []) [] rfl
        have hD9 := hD.sub (ws' := []) [] (by decide) rfl
        exact W.iret (v := (-6)) hx hb hr (fun t ht hW => ⟨⟨(-6), (), rfl, (by (repeat' split) <;> first | rfl | (exfalso; omega)), by rw [ht]; exact hP9, hD9⟩, hS.F ht⟩) hS.2.2 dX8_judge_44
      · have qc_7 : a = 2 := ti_of (show a.toInt = 2 from c_7)
        refine lv_ni (v := 2) qc_7 ?_
        refine va_iald hx hb hK hP 1 0 rfl rfl (vp_in_c (by decide)) dX8_judge_37 ?_
        refine lv_ni (v := (-1)) (hs2) ?_
        refine lv_iconst (v := (-1)) hx hb dX8_judge_38 (by decide) ?_
        refine lv_icmp_ne (tgt := 45) hx hb dX8_judge_39 (by decide) (fun c9 => absurd c9 (by decide)) (fun _ => ?_)
        refine lv_bipush (v := (-6)) hx hb dX8_judge_42 (by decide) ?_
        have hP9 := hP.sub (ws' := []) [] rfl
        have hD9 := hD.sub (ws' := []) [] (by decide) rfl
        exact W.iret (v := (-6)) hx hb hr (fun t ht hW => ⟨⟨(-6), (), rfl, (by (repeat' split) <;> first | rfl | (exfalso; omega)), by rw [ht]; exact hP9, hD9⟩, hS.F ht⟩) hS.2.2 dX8_judge_44
      · have qc_8 : a = 3 := ti_of (show a.toInt = 3 from c_8)
        refine lv_ni (v := 3) qc_8 ?_
        refine va_iald hx hb hK hP 1 0 rfl rfl (vp_in_c (by decide)) dX8_judge_37 ?_
        refine lv_ni (v := (-1)) (hs3) ?_
        refine lv_iconst (v := (-1)) hx hb dX8_judge_38 (by decide) ?_
        refine lv_icmp_ne (tgt := 45) hx hb dX8_judge_39 (by decide) (fun c9 => absurd c9 (by decide)) (fun _ => ?_)
        refine lv_bipush (v := (-6)) hx hb dX8_judge_42 (by decide) ?_
        have hP9 := hP.sub (ws' := []) [] rfl
        have hD9 := hD.sub (ws' := []) [] (by decide) rfl
        exact W.iret (v := (-6)) hx hb hr (fun t ht hW => ⟨⟨(-6), (), rfl, (by (repeat' split) <;> first | rfl | (exfalso; omega)), by rw [ht]; exact hP9, hD9⟩, hS.F ht⟩) hS.2.2 dX8_judge_44
    have hr_3 := hr_3.trans (if_neg hc_4)
    obtain rfl : r_3 = 0 := hr_3
    refine lv_if_ne (tgt := 32) hx hb dX8_judge_26 (by decide) (fun c9 => absurd c9 (by decide)) (fun _ => ?_)
    refine lv_bipush (v := (-2)) hx hb dX8_judge_29 (by decide) ?_
    have hP9 := hP.sub (ws' := []) [] rfl
    have hD9 := hD.sub (ws' := []) [] (by decide) rfl
    exact W.iret (v := (-2)) hx hb hr (fun t ht hW => ⟨⟨(-2), (), rfl, (by (repeat' split) <;> first | rfl | (exfalso; omega)), by rw [ht]; exact hP9, hD9⟩, hS.F ht⟩) hS.2.2 dX8_judge_31
  have hr_1 := hr_1.trans (if_neg hc_2)
  obtain rfl : r_1 = 0 := hr_1
  refine lv_if_eq (tgt := 29) hx hb dX8_judge_14 (by decide) (fun _ => ?_) (fun c9 => absurd c9 (by decide))
  refine lv_bipush (v := (-2)) hx hb dX8_judge_29 (by decide) ?_
  have hP9 := hP.sub (ws' := []) [] rfl
  have hD9 := hD.sub (ws' := []) [] (by decide) rfl
  exact W.iret (v := (-2)) hx hb hr (fun t ht hW => ⟨⟨(-2), (), rfl, (by (repeat' split) <;> first | rfl | (exfalso; omega)), by rw [ht]; exact hP9, hD9⟩, hS.F ht⟩) hS.2.2 dX8_judge_31
set_option maxHeartbeats 4000000 in
set_option maxRecDepth 100000 in
theorem c_M_perform (l : Launch) (D : va_G) (k : Nat → ClassId) (mm : Nat → Nat) (rs : Nat → Int32) (a : Int32) (sz : Nat) (hs0 : rs 0 = -1) (hs1 : rs 1 = -1) (hs2 : rs 2 = -1) (hs3 : rs 3 = -1) : Met l yX8_perform (Cond.code yX8_perform cX8_perform 2 (some .int) :: wsL_law) ({ frames := 1, cells := 0, slots := 0, locals := 60 } : Room) (va_Pc [.ref (mm 0), .int a] (pu D k sz [((mm 0), .inr (7, [.int 0, .ref (mm 1), .ref (mm 2), .ref (mm 3), .ref (mm 4), .ref (mm 5), .int 0, .int 0, .int 0, .int 0, .int 0, .int 0, .int 0, .int 0, .int 0, .int (-1), .int 0, .ref (mm 6), .int 0, .ref (mm 7), .ref (mm 8), .ref (mm 9), .int 0, .ref (mm 10), .ref (mm 11), .int 0, .int 0, .ref (mm 12), .ref (mm 13), .int 0, .ref (mm 14), .ref (mm 15), .ref (mm 16)])), ((mm 14), .inl (k 0, 4, .inl rs))])) (va_Qi (fun rr (uu : Unit) => rr = if 0 ≤ a.toInt ∧ a.toInt ≤ 3 then (-6) else (-2)) (qu D (va_A [((mm 0), .inr (7, [.int 0, .ref (mm 1), .ref (mm 2), .ref (mm 3), .ref (mm 4), .ref (mm 5), .int 0, .int 0, .int 0, .int 0, .int 0, .int 0, .int 0, .int 0, .int 0, .int (-1), .int 0, .ref (mm 6), .int 0, .ref (mm 7), .ref (mm 8), .ref (mm 9), .int 0, .ref (mm 10), .ref (mm 11), .int 0, .int 0, .ref (mm 12), .ref (mm 13), .int 0, .ref (mm 14), .ref (mm 15), .ref (mm 16)])), ((mm 14), .inl (k 0, 4, .inl rs))] sz) (fun uu : Unit => [])) (va_A [((mm 0), .inr (7, [.int 0, .ref (mm 1), .ref (mm 2), .ref (mm 3), .ref (mm 4), .ref (mm 5), .int 0, .int 0, .int 0, .int 0, .int 0, .int 0, .int 0, .int 0, .int 0, .int (-1), .int 0, .ref (mm 6), .int 0, .ref (mm 7), .ref (mm 8), .ref (mm 9), .int 0, .ref (mm 10), .ref (mm 11), .int 0, .int 0, .ref (mm 12), .ref (mm 13), .int 0, .ref (mm 14), .ref (mm 15), .ref (mm 16)])), ((mm 14), .inl (k 0, 4, .inl rs))] sz)) 0 0 (va_A [((mm 0), .inr (7, [.int 0, .ref (mm 1), .ref (mm 2), .ref (mm 3), .ref (mm 4), .ref (mm 5), .int 0, .int 0, .int 0, .int 0, .int 0, .int 0, .int 0, .int 0, .int 0, .int (-1), .int 0, .ref (mm 6), .int 0, .ref (mm 7), .ref (mm 8), .ref (mm 9), .int 0, .ref (mm 10), .ref (mm 11), .int 0, .int 0, .ref (mm 12), .ref (mm 13), .int 0, .ref (mm 14), .ref (mm 15), .ref (mm 16)])), ((mm 14), .inl (k 0, 4, .inl rs))] sz) := by
  refine Met.ofW (cc := cX8_perform) (maxL := 2) (ret := (some .int)) (by decide) rfl ?_
  intro p e s m args below meth c s₁ B hml hv
  obtain ⟨rfl, hsz, hP, hK, hD0⟩ := hv
  have hx := B.exec
  have hb := B.bytes
  have hr := B.returns
  have hts : ∀ w ∈ wsL_law, w.before _ s = true := fun w h => atoms_spec (ws := Cond.code yX8_perform cX8_perform 2 (some .int) :: wsL_law) B.pre w (List.mem_cons_of_mem _ h)
  have hown : s.vm.findClass RX8 = some m.cls := findClass_of_methodNamed B.named
  have hlocks := B.notSynchronized
  subst hsz
  have hD := hD0.self (sz := s.heap.size)
  generalize hAe : va_A [((mm 0), .inr (7, [.int 0, .ref (mm 1), .ref (mm 2), .ref (mm 3), .ref (mm 4), .ref (mm 5), .int 0, .int 0, .int 0, .int 0, .int 0, .int 0, .int 0, .int 0, .int 0, .int (-1), .int 0, .ref (mm 6), .int 0, .ref (mm 7), .ref (mm 8), .ref (mm 9), .int 0, .ref (mm 10), .ref (mm 11), .int 0, .int 0, .ref (mm 12), .ref (mm 13), .int 0, .ref (mm 14), .ref (mm 15), .ref (mm 16)])), ((mm 14), .inl (k 0, 4, .inl rs))] s.heap.size = A at hD ⊢
  have hA : ∀ q : Nat, s.heap.size ≤ q → A q := fun q h => by rw [← hAe]; exact Or.inr h
  have hS : va_S A s.heap s.heap [] := va_S.rf
  have hP : va_P D vwCl [((mm 0), .inr (7, [.int 0, .ref (mm 1), .ref (mm 2), .ref (mm 3), .ref (mm 4), .ref (mm 5), .int 0, .int 0, .int 0, .int 0, .int 0, .int 0, .int 0, .int 0, .int 0, .int (-1), .int 0, .ref (mm 6), .int 0, .ref (mm 7), .ref (mm 8), .ref (mm 9), .int 0, .ref (mm 10), .ref (mm 11), .int 0, .int 0, .ref (mm 12), .ref (mm 13), .int 0, .ref (mm 14), .ref (mm 15), .ref (mm 16)])), ((mm 14), .inl (k 0, 4, .inl rs))] s.heap := hP
  have hl := lv_entry ([.ref (mm 0), .int a]) (n := 2) (Nat.le_of_ble_eq_true rfl)
  rw [lg_entry_eq]
  generalize (lg_sl ([.ref (mm 0), .int a]) ++ List.replicate (2 - (lg_sl ([.ref (mm 0), .int a])).length) Slot.unset).toArray = ls at hl ⊢
  have hl : lv_has ls 2 [(0, .ref (mm 0)), (1, .int a)] := hl
  refine lv_aload_n hx hb dX8_perform_0 rfl (lv_at hl 0 rfl) ?_
  refine lv_iconst (v := 0) hx hb dX8_perform_1 (by decide) ?_
  refine va_put (D := D) (ci := 7) (v := .int 0) (ty := .int) (C := RX8) (T := TX8) (N := 33) hx hb hts inlX8 tyX8 tyX8_ok nmX8 hown hK hP hD hS 0 rfl rfl 0 (by decide) (hts _ mw_125) (fun _ h9 => h9) rfl (by decide +kernel) rfl rfl (Nat.le_of_ble_eq_true rfl) dX8_perform_2 (fun H locs hP hD hS => ?_)
  have hP : va_P D vwCl [((mm 0), .inr (7, [.int 0, .ref (mm 1), .ref (mm 2), .ref (mm 3), .ref (mm 4), .ref (mm 5), .int 0, .int 0, .int 0, .int 0, .int 0, .int 0, .int 0, .int 0, .int 0, .int (-1), .int 0, .ref (mm 6), .int 0, .ref (mm 7), .ref (mm 8), .ref (mm 9), .int 0, .ref (mm 10), .ref (mm 11), .int 0, .int 0, .ref (mm 12), .ref (mm 13), .int 0, .ref (mm 14), .ref (mm 15), .ref (mm 16)])), ((mm 14), .inl (k 0, 4, .inl rs))] H := hP
  have hD : va_D A [((mm 0), .inr (7, [.int 0, .ref (mm 1), .ref (mm 2), .ref (mm 3), .ref (mm 4), .ref (mm 5), .int 0, .int 0, .int 0, .int 0, .int 0, .int 0, .int 0, .int 0, .int 0, .int (-1), .int 0, .ref (mm 6), .int 0, .ref (mm 7), .ref (mm 8), .ref (mm 9), .int 0, .ref (mm 10), .ref (mm 11), .int 0, .int 0, .ref (mm 12), .ref (mm 13), .int 0, .ref (mm 14), .ref (mm 15), .ref (mm 16)])), ((mm 14), .inl (k 0, 4, .inl rs))] := hD
  refine lv_iload_n hx hb dX8_perform_5 rfl (lv_at hl 1 rfl) ?_
  refine lv_i2l (v := a.toInt64) hx hb dX8_perform_6 rfl ?_
  refine lv_lconst (v := 0) hx hb dX8_perform_7 (by decide) ?_
  refine lv_ldc2 (own := RX8) (index := 220) (v := 3) hx hb hown (hts _ mw_592) dX8_perform_8 ?_
  refine kS_i (As := [.long a.toInt64, .long 0, .long 3]) (rest := []) (cs := []) ⟨hx, hb, hml, hown, hts⟩ (c_M_within l D k a 0 3) (gS mw_294 mw_295 mw_5 mw_296) hd_yX8_within rfl rfl ⟨Nat.le_of_ble_eq_true rfl, Nat.le_of_ble_eq_true rfl⟩ hK (hP.sub (ws' := []) [] rfl) rfl hl.1 rfl (Nat.le_of_ble_eq_true rfl) dX8_perform_11 ⟨Nat.le_of_ble_eq_true rfl, Nat.le_of_ble_eq_true rfl⟩ (fun r_1 hr_1 => ?_)
  by_cases hc_2 : 0 ≤ a.toInt ∧ a.toInt ≤ 3
  · obtain rfl : r_1 = 1 := hr_1.trans (if_pos hc_2)
    refine lv_if_ne (tgt := 20) hx hb dX8_perform_14 (by decide) (fun _ => ?_) (fun c9 => absurd c9 (by decide))
    refine lv_aload_n hx hb dX8_perform_20 rfl (lv_at hl 0 rfl) ?_
    refine va_get (D := D) (ci := 7) (v := .ref (mm 14)) (C := RX8) (T := TX8) (N := 33) hx hb hts inlX8 hown hK hP 0 rfl rfl 30 (by decide) (hts _ mw_105) (fun _ h9 => h9) rfl dX8_perform_21 ?_
    refine lv_iload_n hx hb dX8_perform_24 rfl (lv_at hl 1 rfl) ?_
    rcases (show a.toInt = 0 ∨ a.toInt = 1 ∨ a.toInt = 2 ∨ a.toInt = 3 from by omega) with c_3 | c_4 | c_5 | c_6
    · have qc_3 : a = 0 := ti_of (show a.toInt = 0 from c_3)
      refine lv_ni (v := 0) qc_3 ?_
      refine va_iald hx hb hK hP 1 0 rfl rfl (vp_in_c (by decide)) dX8_perform_25 ?_
      refine lv_ni (v := (-1)) (hs0) ?_
      refine lv_iconst (v := (-1)) hx hb dX8_perform_26 (by decide) ?_
      refine lv_icmp_ne (tgt := 35) hx hb dX8_perform_27 (by decide) (fun c9 => absurd c9 (by decide)) (fun _ => ?_)
      refine lv_bipush (v := (-6)) hx hb dX8_perform_30 (by decide) ?_
      refine lv_goto (tgt := 40) hx hb dX8_perform_32 (by decide) ?_
      have hP9 := hP.sub (ws' := []) [] rfl
      have hD9 := hD.sub (ws' := []) [] (by decide) rfl
      exact W.iret (v := (-6)) hx hb hr (fun t ht hW => ⟨⟨(-6), (), rfl, (by (repeat' split) <;> first | rfl | (exfalso; omega)), by rw [ht]; exact hP9, hD9⟩, hS.F ht⟩) hS.2.2 dX8_perform_40
    · have qc_4 : a = 1 := ti_of (show a.toInt = 1 from c_4)
      refine lv_ni (v := 1) qc_4 ?_
      refine va_iald hx hb hK hP 1 0 rfl rfl (vp_in_c (by decide)) dX8_perform_25 ?_
      refine lv_ni (v := (-1)) (hs1) ?_
      refine lv_iconst (v := (-1)) hx hb dX8_perform_26 (by decide) ?_
      refine lv_icmp_ne (tgt := 35) hx hb dX8_perform_27 (by decide) (fun c9 => absurd c9 (by decide)) (fun _ => ?_)
      refine lv_bipush (v := (-6)) hx hb dX8_perform_30 (by decide) ?_
      refine lv_goto (tgt := 40) hx hb dX8_perform_32 (by decide) ?_
      have hP9 := hP.sub (ws' := []) [] rfl
      have hD9 := hD.sub (ws' := []) [] (by decide) rfl
      exact W.iret (v := (-6)) hx hb hr (fun t ht hW => ⟨⟨(-6), (), rfl, (by (repeat' split) <;> first | rfl | (exfalso; omega)), by rw [ht]; exact hP9, hD9⟩, hS.F ht⟩) hS.2.2 dX8_perform_40
    · have qc_5 : a = 2 := ti_of (show a.toInt = 2 from c_5)
      refine lv_ni (v := 2) qc_5 ?_
      refine va_iald hx hb hK hP 1 0 rfl rfl (vp_in_c (by decide)) dX8_perform_25 ?_
      refine lv_ni (v := (-1)) (hs2) ?_
      refine lv_iconst (v := (-1)) hx hb dX8_perform_26 (by decide) ?_
      refine lv_icmp_ne (tgt := 35) hx hb dX8_perform_27 (by decide) (fun c9 => absurd c9 (by decide)) (fun _ => ?_)
      refine lv_bipush (v := (-6)) hx hb dX8_perform_30 (by decide) ?_
      refine lv_goto (tgt := 40) hx hb dX8_perform_32 (by decide) ?_
      have hP9 := hP.sub (ws' := []) [] rfl
      have hD9 := hD.sub (ws' := []) [] (by decide) rfl
      exact W.iret (v := (-6)) hx hb hr (fun t ht hW => ⟨⟨(-6), (), rfl, (by (repeat' split) <;> first | rfl | (exfalso; omega)), by rw [ht]; exact hP9, hD9⟩, hS.F ht⟩) hS.2.2 dX8_perform_40
    · have qc_6 : a = 3 := ti_of (show a.toInt = 3 from c_6)
      refine lv_ni (v := 3) qc_6 ?_
      refine va_iald hx hb hK hP 1 0 rfl rfl (vp_in_c (by decide)) dX8_perform_25 ?_
      refine lv_ni (v := (-1)) (hs3) ?_
      refine lv_iconst (v := (-1)) hx hb dX8_perform_26 (by decide) ?_
      refine lv_icmp_ne (tgt := 35) hx hb dX8_perform_27 (by decide) (fun c9 => absurd c9 (by decide)) (fun _ => ?_)
      refine lv_bipush (v := (-6)) hx hb dX8_perform_30 (by decide) ?_
      refine lv_goto (tgt := 40) hx hb dX8_perform_32 (by decide) ?_
      have hP9 := hP.sub (ws' := []) [] rfl
      have hD9 := hD.sub (ws' := []) [] (by decide) rfl
      exact W.iret (v := (-6)) hx hb hr (fun t ht hW => ⟨⟨(-6), (), rfl, (by (repeat' split) <;> first | rfl | (exfalso; omega)), by rw [ht]; exact hP9, hD9⟩, hS.F ht⟩) hS.2.2 dX8_perform_40
  have hr_1 := hr_1.trans (if_neg hc_2)
  obtain rfl : r_1 = 0 := hr_1
  refine lv_if_ne (tgt := 20) hx hb dX8_perform_14 (by decide) (fun c9 => absurd c9 (by decide)) (fun _ => ?_)
  refine lv_bipush (v := (-2)) hx hb dX8_perform_17 (by decide) ?_
  have hP9 := hP.sub (ws' := []) [] rfl
  have hD9 := hD.sub (ws' := []) [] (by decide) rfl
  exact W.iret (v := (-2)) hx hb hr (fun t ht hW => ⟨⟨(-2), (), rfl, (by (repeat' split) <;> first | rfl | (exfalso; omega)), by rw [ht]; exact hP9, hD9⟩, hS.F ht⟩) hS.2.2 dX8_perform_19
set_option maxHeartbeats 4000000 in
set_option maxRecDepth 100000 in
theorem c_M_drawn (l : Launch) (D : va_G) (k : Nat → ClassId) (mm : Nat → Nat) (f : Nat → Int32) (a : Int32) (x : Int32) (sz : Nat) (hf0 : f 0 = 0) (hf1 : f 1 = 0) : Met l yX8_drawn (Cond.code yX8_drawn cX8_drawn 8 (some .int) :: wsL_law) ({ frames := 1, cells := 0, slots := 0, locals := 60 } : Room) (va_Pc [.ref (mm 0), .int a, .int x] (pu D k sz [((mm 0), .inr (7, [.int 0, .ref (mm 1), .ref (mm 2), .ref (mm 3), .ref (mm 4), .ref (mm 5), .int 0, .int 0, .int 0, .int 0, .int 0, .int 0, .int 0, .int 0, .int 0, .int (-1), .int 0, .ref (mm 6), .int 0, .ref (mm 7), .ref (mm 8), .ref (mm 9), .int 0, .ref (mm 10), .ref (mm 11), .int 0, .int 0, .ref (mm 12), .ref (mm 13), .int 0, .ref (mm 14), .ref (mm 15), .ref (mm 16)])), ((mm 1), .inl (k 0, 1227, .inl f)), ((mm 2), .inl (k 0, 409, .inl (fun _ => 0)))])) (va_Qi (fun rr (uu : Unit) => rr = if 1 ≤ x.toInt ∧ x.toInt ≤ 30 then 0 else (-3)) (qu D (va_A [((mm 0), .inr (7, [.int 0, .ref (mm 1), .ref (mm 2), .ref (mm 3), .ref (mm 4), .ref (mm 5), .int 0, .int 0, .int 0, .int 0, .int 0, .int 0, .int 0, .int 0, .int 0, .int (-1), .int 0, .ref (mm 6), .int 0, .ref (mm 7), .ref (mm 8), .ref (mm 9), .int 0, .ref (mm 10), .ref (mm 11), .int 0, .int 0, .ref (mm 12), .ref (mm 13), .int 0, .ref (mm 14), .ref (mm 15), .ref (mm 16)])), ((mm 1), .inl (k 0, 1227, .inl f)), ((mm 2), .inl (k 0, 409, .inl (fun _ => 0)))] sz) (fun uu : Unit => [])) (va_A [((mm 0), .inr (7, [.int 0, .ref (mm 1), .ref (mm 2), .ref (mm 3), .ref (mm 4), .ref (mm 5), .int 0, .int 0, .int 0, .int 0, .int 0, .int 0, .int 0, .int 0, .int 0, .int (-1), .int 0, .ref (mm 6), .int 0, .ref (mm 7), .ref (mm 8), .ref (mm 9), .int 0, .ref (mm 10), .ref (mm 11), .int 0, .int 0, .ref (mm 12), .ref (mm 13), .int 0, .ref (mm 14), .ref (mm 15), .ref (mm 16)])), ((mm 1), .inl (k 0, 1227, .inl f)), ((mm 2), .inl (k 0, 409, .inl (fun _ => 0)))] sz)) 0 0 (va_A [((mm 0), .inr (7, [.int 0, .ref (mm 1), .ref (mm 2), .ref (mm 3), .ref (mm 4), .ref (mm 5), .int 0, .int 0, .int 0, .int 0, .int 0, .int 0, .int 0, .int 0, .int 0, .int (-1), .int 0, .ref (mm 6), .int 0, .ref (mm 7), .ref (mm 8), .ref (mm 9), .int 0, .ref (mm 10), .ref (mm 11), .int 0, .int 0, .ref (mm 12), .ref (mm 13), .int 0, .ref (mm 14), .ref (mm 15), .ref (mm 16)])), ((mm 1), .inl (k 0, 1227, .inl f)), ((mm 2), .inl (k 0, 409, .inl (fun _ => 0)))] sz) := by
  refine Met.ofW (cc := cX8_drawn) (maxL := 8) (ret := (some .int)) (by decide) rfl ?_
  intro p e s m args below meth c s₁ B hml hv
  obtain ⟨rfl, hsz, hP, hK, hD0⟩ := hv
  have hx := B.exec
  have hb := B.bytes
  have hr := B.returns
  have hts : ∀ w ∈ wsL_law, w.before _ s = true := fun w h => atoms_spec (ws := Cond.code yX8_drawn cX8_drawn 8 (some .int) :: wsL_law) B.pre w (List.mem_cons_of_mem _ h)
  have hown : s.vm.findClass RX8 = some m.cls := findClass_of_methodNamed B.named
  have hlocks := B.notSynchronized
  subst hsz
  have hD := hD0.self (sz := s.heap.size)
  generalize hAe : va_A [((mm 0), .inr (7, [.int 0, .ref (mm 1), .ref (mm 2), .ref (mm 3), .ref (mm 4), .ref (mm 5), .int 0, .int 0, .int 0, .int 0, .int 0, .int 0, .int 0, .int 0, .int 0, .int (-1), .int 0, .ref (mm 6), .int 0, .ref (mm 7), .ref (mm 8), .ref (mm 9), .int 0, .ref (mm 10), .ref (mm 11), .int 0, .int 0, .ref (mm 12), .ref (mm 13), .int 0, .ref (mm 14), .ref (mm 15), .ref (mm 16)])), ((mm 1), .inl (k 0, 1227, .inl f)), ((mm 2), .inl (k 0, 409, .inl (fun _ => 0)))] s.heap.size = A at hD ⊢
  have hA : ∀ q : Nat, s.heap.size ≤ q → A q := fun q h => by rw [← hAe]; exact Or.inr h
  have hS : va_S A s.heap s.heap [] := va_S.rf
  have hP : va_P D vwCl [((mm 0), .inr (7, [.int 0, .ref (mm 1), .ref (mm 2), .ref (mm 3), .ref (mm 4), .ref (mm 5), .int 0, .int 0, .int 0, .int 0, .int 0, .int 0, .int 0, .int 0, .int 0, .int (-1), .int 0, .ref (mm 6), .int 0, .ref (mm 7), .ref (mm 8), .ref (mm 9), .int 0, .ref (mm 10), .ref (mm 11), .int 0, .int 0, .ref (mm 12), .ref (mm 13), .int 0, .ref (mm 14), .ref (mm 15), .ref (mm 16)])), ((mm 1), .inl (k 0, 1227, .inl f)), ((mm 2), .inl (k 0, 409, .inl (fun _ => 0)))] s.heap := hP
  have hl := lv_entry ([.ref (mm 0), .int a, .int x]) (n := 8) (Nat.le_of_ble_eq_true rfl)
  rw [lg_entry_eq]
  generalize (lg_sl ([.ref (mm 0), .int a, .int x]) ++ List.replicate (8 - (lg_sl ([.ref (mm 0), .int a, .int x])).length) Slot.unset).toArray = ls at hl ⊢
  have hl : lv_has ls 8 [(0, .ref (mm 0)), (1, .int a), (2, .int x)] := hl
  refine lv_aload_n hx hb dX8_drawn_0 rfl (lv_at hl 0 rfl) ?_
  refine lv_iconst (v := 0) hx hb dX8_drawn_1 (by decide) ?_
  refine va_put (D := D) (ci := 7) (v := .int 0) (ty := .int) (C := RX8) (T := TX8) (N := 33) hx hb hts inlX8 tyX8 tyX8_ok nmX8 hown hK hP hD hS 0 rfl rfl 0 (by decide) (hts _ mw_125) (fun _ h9 => h9) rfl (by decide +kernel) rfl rfl (Nat.le_of_ble_eq_true rfl) dX8_drawn_2 (fun H locs hP hD hS => ?_)
  have hP : va_P D vwCl [((mm 0), .inr (7, [.int 0, .ref (mm 1), .ref (mm 2), .ref (mm 3), .ref (mm 4), .ref (mm 5), .int 0, .int 0, .int 0, .int 0, .int 0, .int 0, .int 0, .int 0, .int 0, .int (-1), .int 0, .ref (mm 6), .int 0, .ref (mm 7), .ref (mm 8), .ref (mm 9), .int 0, .ref (mm 10), .ref (mm 11), .int 0, .int 0, .ref (mm 12), .ref (mm 13), .int 0, .ref (mm 14), .ref (mm 15), .ref (mm 16)])), ((mm 1), .inl (k 0, 1227, .inl f)), ((mm 2), .inl (k 0, 409, .inl (fun _ => 0)))] H := hP
  have hD : va_D A [((mm 0), .inr (7, [.int 0, .ref (mm 1), .ref (mm 2), .ref (mm 3), .ref (mm 4), .ref (mm 5), .int 0, .int 0, .int 0, .int 0, .int 0, .int 0, .int 0, .int 0, .int 0, .int (-1), .int 0, .ref (mm 6), .int 0, .ref (mm 7), .ref (mm 8), .ref (mm 9), .int 0, .ref (mm 10), .ref (mm 11), .int 0, .int 0, .ref (mm 12), .ref (mm 13), .int 0, .ref (mm 14), .ref (mm 15), .ref (mm 16)])), ((mm 1), .inl (k 0, 1227, .inl f)), ((mm 2), .inl (k 0, 409, .inl (fun _ => 0)))] := hD
  refine lv_iload_n hx hb dX8_drawn_5 rfl (lv_at hl 2 rfl) ?_
  refine lv_i2l (v := x.toInt64) hx hb dX8_drawn_6 rfl ?_
  refine lv_lconst (v := 1) hx hb dX8_drawn_7 (by decide) ?_
  refine lv_ldc2 (own := RX8) (index := 234) (v := 30) hx hb hown (hts _ mw_631) dX8_drawn_8 ?_
  refine kS_i (As := [.long x.toInt64, .long 1, .long 30]) (rest := []) (cs := []) ⟨hx, hb, hml, hown, hts⟩ (c_M_within l D k x 1 30) (gS mw_294 mw_295 mw_5 mw_296) hd_yX8_within rfl rfl ⟨Nat.le_of_ble_eq_true rfl, Nat.le_of_ble_eq_true rfl⟩ hK (hP.sub (ws' := []) [] rfl) rfl hl.1 rfl (Nat.le_of_ble_eq_true rfl) dX8_drawn_11 ⟨Nat.le_of_ble_eq_true rfl, Nat.le_of_ble_eq_true rfl⟩ (fun r_1 hr_1 => ?_)
  by_cases hc_2 : 1 ≤ x.toInt ∧ x.toInt ≤ 30
  · obtain rfl : r_1 = 1 := hr_1.trans (if_pos hc_2)
    refine lv_if_ne (tgt := 20) hx hb dX8_drawn_14 (by decide) (fun _ => ?_) (fun c9 => absurd c9 (by decide))
    refine lv_aload_n hx hb dX8_drawn_20 rfl (lv_at hl 0 rfl) ?_
    refine va_get (D := D) (ci := 7) (v := .ref (mm 1)) (C := RX8) (T := TX8) (N := 33) hx hb hts inlX8 hown hK hP 0 rfl rfl 1 (by decide) (hts _ mw_91) (fun _ h9 => h9) rfl dX8_drawn_21 ?_
    refine lv_iconst (v := 1) hx hb dX8_drawn_24 (by decide) ?_
    refine va_iald hx hb hK hP 1 0 rfl rfl (vp_in_c (by decide)) dX8_drawn_25 ?_
    refine lv_ni (v := 0) (hf1) ?_
    refine lv_iload_n hx hb dX8_drawn_26 rfl (lv_at hl 2 rfl) ?_
    refine lv_iadd hx hb dX8_drawn_27 ?_
    refine lv_topi (fun z_3 ez_3 => ?_)
    have tz_3 : z_3.toInt = 0 + x.toInt := by rw [ez_3]; exact ti_addcl (by decide) (by omega) (by omega)
    refine lv_sipush (v := 999) hx hb dX8_drawn_28 (by decide) ?_
    refine lv_icmp_le (tgt := 37) hx hb dX8_drawn_31 (by decide) (fun c_4 => ?_) (fun c_4 => by have q := ti_nle c_4; have q : 999 < z_3.toInt := q; exfalso; omega)
    have c_4 : z_3.toInt ≤ 999 := ti_le c_4
    refine lv_iload_n hx hb dX8_drawn_37 rfl (lv_at hl 1 rfl) ?_
    refine lv_istore_n (lv' := [(3, .int a), (0, .ref (mm 0)), (1, .int a), (2, .int x)]) hx hb dX8_drawn_38 rfl hl (by decide) rfl (fun ls hl => ?_)
    refine lv_iconst (v := 0) hx hb dX8_drawn_39 (by decide) ?_
    refine lv_istore (lv' := [(4, .int 0), (3, .int a), (0, .ref (mm 0)), (1, .int a), (2, .int x)]) hx hb dX8_drawn_40 hl (by decide) rfl (fun ls hl => ?_)
    refine lv_iconst (v := 0) hx hb dX8_drawn_42 (by decide) ?_
    refine lv_istore (lv' := [(5, .int 0), (4, .int 0), (3, .int a), (0, .ref (mm 0)), (1, .int a), (2, .int x)]) hx hb dX8_drawn_43 hl (by decide) rfl (fun ls hl => ?_)
    refine W_loop (σ := Int32 × (Nat → Int32) × (Nat → Int32) × Int32) (fun xx H locs ls => (0 ≤ xx.1.toInt ∧ xx.1.toInt ≤ x.toInt) ∧ (xx.2.1 0 = 0) ∧ (xx.2.2.1 0 = 0) ∧ va_P D vwCl [((mm 0), .inr (7, [.int 0, .ref (mm 1), .ref (mm 2), .ref (mm 3), .ref (mm 4), .ref (mm 5), .int 0, .int 0, .int 0, .int 0, .int 0, .int 0, .int 0, .int 0, .int 0, .int (-1), .int 0, .ref (mm 6), .int 0, .ref (mm 7), .ref (mm 8), .ref (mm 9), .int 0, .ref (mm 10), .ref (mm 11), .int 0, .int 0, .ref (mm 12), .ref (mm 13), .int 0, .ref (mm 14), .ref (mm 15), .ref (mm 16)])), ((mm 1), .inl (k 0, 1227, .inl xx.2.1)), ((mm 2), .inl (k 0, 409, .inl xx.2.2.1))] H ∧ va_D A [((mm 0), .inr (7, [.int 0, .ref (mm 1), .ref (mm 2), .ref (mm 3), .ref (mm 4), .ref (mm 5), .int 0, .int 0, .int 0, .int 0, .int 0, .int 0, .int 0, .int 0, .int 0, .int (-1), .int 0, .ref (mm 6), .int 0, .ref (mm 7), .ref (mm 8), .ref (mm 9), .int 0, .ref (mm 10), .ref (mm 11), .int 0, .int 0, .ref (mm 12), .ref (mm 13), .int 0, .ref (mm 14), .ref (mm 15), .ref (mm 16)])), ((mm 1), .inl (k 0, 1227, .inl xx.2.1)), ((mm 2), .inl (k 0, 409, .inl xx.2.2.1))] ∧ va_S A s.heap H locs ∧ lv_has ls 8 [(5, .int xx.1), (4, .int 0), (3, .int xx.2.2.2), (0, .ref (mm 0)), (1, .int a), (2, .int x)]) (fun xx => (x.toInt - xx.1.toInt).toNat) ?_ (0, f, (fun _ => 0), a) _ _ ls ⟨(show 0 ≤ (0 : Int32).toInt ∧ (0 : Int32).toInt ≤ x.toInt from ⟨by decide, by rw [show (0 : Int32).toInt = 0 from by decide]; omega⟩), hf0, rfl, hP.sub [0, 1, 2] rfl, hD.sub [0, 1, 2] (by decide) rfl, hS, lv_sub hl [0, 1, 2, 3, 4, 5] rfl⟩
    intro xx H locs ls hI ih
    obtain ⟨i_5, f_6, f_7, y_8⟩ := xx
    obtain ⟨h_9, h_10, h_11, hP, hD, hS, hl⟩ := hI
    have h_9 : 0 ≤ i_5.toInt ∧ i_5.toInt ≤ x.toInt := h_9
    have h_10 : f_6 0 = 0 := h_10
    have h_11 : f_7 0 = 0 := h_11
    obtain ⟨h_9a, h_9b⟩ := h_9
    have hP : va_P D vwCl [((mm 0), .inr (7, [.int 0, .ref (mm 1), .ref (mm 2), .ref (mm 3), .ref (mm 4), .ref (mm 5), .int 0, .int 0, .int 0, .int 0, .int 0, .int 0, .int 0, .int 0, .int 0, .int (-1), .int 0, .ref (mm 6), .int 0, .ref (mm 7), .ref (mm 8), .ref (mm 9), .int 0, .ref (mm 10), .ref (mm 11), .int 0, .int 0, .ref (mm 12), .ref (mm 13), .int 0, .ref (mm 14), .ref (mm 15), .ref (mm 16)])), ((mm 1), .inl (k 0, 1227, .inl f_6)), ((mm 2), .inl (k 0, 409, .inl f_7))] H := hP
    have hD : va_D A [((mm 0), .inr (7, [.int 0, .ref (mm 1), .ref (mm 2), .ref (mm 3), .ref (mm 4), .ref (mm 5), .int 0, .int 0, .int 0, .int 0, .int 0, .int 0, .int 0, .int 0, .int 0, .int (-1), .int 0, .ref (mm 6), .int 0, .ref (mm 7), .ref (mm 8), .ref (mm 9), .int 0, .ref (mm 10), .ref (mm 11), .int 0, .int 0, .ref (mm 12), .ref (mm 13), .int 0, .ref (mm 14), .ref (mm 15), .ref (mm 16)])), ((mm 1), .inl (k 0, 1227, .inl f_6)), ((mm 2), .inl (k 0, 409, .inl f_7))] := hD
    have hl : lv_has ls 8 [(5, .int i_5), (4, .int 0), (3, .int y_8), (0, .ref (mm 0)), (1, .int a), (2, .int x)] := hl
    refine lv_iload hx hb dX8_drawn_45 (lv_at hl 0 rfl) ?_
    refine lv_iload_n hx hb dX8_drawn_47 rfl (lv_at hl 5 rfl) ?_
    refine lv_icmp_ge (tgt := 157) hx hb dX8_drawn_48 (by decide) (fun c_12 => ?_) (fun c_12 => ?_)
    · have c_12 : x.toInt ≤ i_5.toInt := ti_le c_12
      refine lv_iload hx hb dX8_drawn_157 (lv_at hl 1 rfl) ?_
      have hP9 := hP.sub (ws' := []) [] rfl
      have hD9 := hD.sub (ws' := []) [] (by decide) rfl
      exact W.iret (v := 0) hx hb hr (fun t ht hW => ⟨⟨0, (), rfl, (by (repeat' split) <;> first | rfl | (exfalso; omega)), by rw [ht]; exact hP9, hD9⟩, hS.F ht⟩) hS.2.2 dX8_drawn_159
    · have c_12 : i_5.toInt < x.toInt := ti_nle c_12
      refine lv_iconst (v := 0) hx hb dX8_drawn_51 (by decide) ?_
      refine lv_istore (lv' := [(6, .int 0), (5, .int i_5), (4, .int 0), (3, .int y_8), (0, .ref (mm 0)), (1, .int a), (2, .int x)]) hx hb dX8_drawn_52 hl (by decide) rfl (fun ls hl => ?_)
      refine lv_iconst (v := 0) hx hb dX8_drawn_54 (by decide) ?_
      refine lv_istore (lv' := [(7, .int 0), (6, .int 0), (5, .int i_5), (4, .int 0), (3, .int y_8), (0, .ref (mm 0)), (1, .int a), (2, .int x)]) hx hb dX8_drawn_55 hl (by decide) rfl (fun ls hl => ?_)
      refine lv_iload hx hb dX8_drawn_57 (lv_at hl 0 rfl) ?_
      refine lv_aload_n hx hb dX8_drawn_59 rfl (lv_at hl 5 rfl) ?_
      refine va_get (D := D) (ci := 7) (v := .ref (mm 1)) (C := RX8) (T := TX8) (N := 33) hx hb hts inlX8 hown hK hP 0 rfl rfl 1 (by decide) (hts _ mw_91) (fun _ h9 => h9) rfl dX8_drawn_60 ?_
      refine lv_iconst (v := 0) hx hb dX8_drawn_63 (by decide) ?_
      refine va_iald hx hb hK hP 1 0 rfl rfl (vp_in_c (by decide)) dX8_drawn_64 ?_
      refine lv_ni (v := 0) (h_10) ?_
      refine lv_icmp_ge (tgt := 117) hx hb dX8_drawn_65 (by decide) (fun _ => ?_) (fun c9 => absurd c9 (by decide))
      refine lv_aload_n hx hb dX8_drawn_117 rfl (lv_at hl 5 rfl) ?_
      refine lv_iload hx hb dX8_drawn_118 (lv_at hl 1 rfl) ?_
      refine kV_uv (q0 := 0) (As := [.int 0]) (rest := []) (wc := [((mm 0), .inr (7, [.int 0, .ref (mm 1), .ref (mm 2), .ref (mm 3), .ref (mm 4), .ref (mm 5), .int 0, .int 0, .int 0, .int 0, .int 0, .int 0, .int 0, .int 0, .int 0, .int (-1), .int 0, .ref (mm 6), .int 0, .ref (mm 7), .ref (mm 8), .ref (mm 9), .int 0, .ref (mm 10), .ref (mm 11), .int 0, .int 0, .ref (mm 12), .ref (mm 13), .int 0, .ref (mm 14), .ref (mm 15), .ref (mm 16)])), ((mm 1), .inl (k 0, 1227, .inl f_6)), ((mm 2), .inl (k 0, 409, .inl f_7))]) (wr := []) ⟨hx, hb, hml, hown, hts⟩ (c_M_goes l D k _ 0 f_6 f_7 0 _ h_10 h_11) (gV mw_526 mw_527 mw_528 mw_5 mw_529) hd_yX8_goes rfl rfl ⟨Nat.le_of_ble_eq_true rfl, Nat.le_of_ble_eq_true rfl⟩ hK hP hD hS hA [0, 1, 2] [] rfl rfl (by decide) (by decide) (by decide) rfl rfl rfl rfl hl.1 rfl (Nat.le_of_ble_eq_true rfl) dX8_drawn_120 ⟨Nat.le_of_ble_eq_true rfl, Nat.le_of_ble_eq_true rfl⟩ (fun u_14 H locs hw hP hD hS => ?_)
      obtain ⟨v_15, v_16⟩ := u_14
      obtain ⟨h_17, h_18⟩ := hw
      have h_17 : v_15 0 = 0 := h_17
      have h_18 : v_16 0 = 0 := h_18
      have hP : va_P D vwCl [((mm 0), .inr (7, [.int 0, .ref (mm 1), .ref (mm 2), .ref (mm 3), .ref (mm 4), .ref (mm 5), .int 0, .int 0, .int 0, .int 0, .int 0, .int 0, .int 0, .int 0, .int 0, .int (-1), .int 0, .ref (mm 6), .int 0, .ref (mm 7), .ref (mm 8), .ref (mm 9), .int 0, .ref (mm 10), .ref (mm 11), .int 0, .int 0, .ref (mm 12), .ref (mm 13), .int 0, .ref (mm 14), .ref (mm 15), .ref (mm 16)])), ((mm 1), .inl (k 0, 1227, .inl v_15)), ((mm 2), .inl (k 0, 409, .inl v_16))] H := hP
      have hD : va_D A [((mm 0), .inr (7, [.int 0, .ref (mm 1), .ref (mm 2), .ref (mm 3), .ref (mm 4), .ref (mm 5), .int 0, .int 0, .int 0, .int 0, .int 0, .int 0, .int 0, .int 0, .int 0, .int (-1), .int 0, .ref (mm 6), .int 0, .ref (mm 7), .ref (mm 8), .ref (mm 9), .int 0, .ref (mm 10), .ref (mm 11), .int 0, .int 0, .ref (mm 12), .ref (mm 13), .int 0, .ref (mm 14), .ref (mm 15), .ref (mm 16)])), ((mm 1), .inl (k 0, 1227, .inl v_15)), ((mm 2), .inl (k 0, 409, .inl v_16))] := hD
      refine lv_ldc (own := RX8) (index := 236) (v := 1103515245) hx hb hown (hts _ mw_632) dX8_drawn_123 ?_
      refine lv_iload_n hx hb dX8_drawn_125 rfl (lv_at hl 4 rfl) ?_
      refine lv_imul hx hb dX8_drawn_126 ?_
      refine lv_topi (fun z_19 ez_19 => ?_)
      refine lv_sipush (v := 12345) hx hb dX8_drawn_127 (by decide) ?_
      refine lv_iadd hx hb dX8_drawn_130 ?_
      refine lv_topi (fun z_20 ez_20 => ?_)
      refine lv_istore_n (lv' := [(3, .int z_20), (7, .int 0), (6, .int 0), (5, .int i_5), (4, .int 0), (0, .ref (mm 0)), (1, .int a), (2, .int x)]) hx hb dX8_drawn_131 rfl hl (by decide) rfl (fun ls hl => ?_)
      refine lv_iload_n hx hb dX8_drawn_132 rfl (lv_at hl 0 rfl) ?_
      refine lv_bipush (v := 16) hx hb dX8_drawn_133 (by decide) ?_
      refine lv_iushr hx hb dX8_drawn_135 rfl ?_
      refine lv_topi (fun z_21 ez_21 => ?_)
      refine lv_iconst (v := 2) hx hb dX8_drawn_136 (by decide) ?_
      refine lv_irem hx hb dX8_drawn_137 (by decide) ?_
      refine lv_topi (fun z_22 ez_22 => ?_)
      refine lv_iconst (v := 1) hx hb dX8_drawn_138 (by decide) ?_
      refine lv_icmp_ne (tgt := 151) hx hb dX8_drawn_139 (by decide) (fun c_23 => ?_) (fun c_23 => ?_)
      · have c_23 : z_22.toInt ≠ 1 := ti_ne c_23
        obtain ⟨z_24, ez_24⟩ : ∃ y : Int32, y = i_5 + 1 := ⟨_, rfl⟩
        have tz_24 : z_24.toInt = i_5.toInt + 1 := by rw [ez_24]; exact ti_addc (by decide) (by omega) (by omega)
        refine lv_iinc (v := z_24) (lv' := [(5, .int z_24), (3, .int z_20), (7, .int 0), (6, .int 0), (4, .int 0), (0, .ref (mm 0)), (1, .int a), (2, .int x)]) hx hb dX8_drawn_151 hl (k := 3) rfl (ez_24.symm) (by decide) rfl (fun ls hl => ?_)
        refine lv_goto (tgt := 45) hx hb dX8_drawn_154 (by decide) ?_
        exact ih (z_24, v_15, v_16, z_20) _ _ ls (by show (x.toInt - z_24.toInt).toNat < (x.toInt - i_5.toInt).toNat; omega) ⟨(show 0 ≤ z_24.toInt ∧ z_24.toInt ≤ x.toInt from ⟨by omega, by omega⟩), h_17, h_18, hP.sub [0, 1, 2] rfl, hD.sub [0, 1, 2] (by decide) rfl, hS, lv_sub hl [0, 4, 1, 5, 6, 7] rfl⟩
      · have c_23 : z_22.toInt = 1 := ti_eq c_23
        have qc_23 : z_22 = 1 := ti_of (show z_22.toInt = 1 from by omega)
        refine lv_iload hx hb dX8_drawn_142 (lv_at hl 4 rfl) ?_
        refine lv_aload_n hx hb dX8_drawn_144 rfl (lv_at hl 5 rfl) ?_
        refine kV_i (q0 := 0) (As := []) (rest := [.int 0]) (cs := [((mm 0), .inr (7, [.int 0, .ref (mm 1), .ref (mm 2), .ref (mm 3), .ref (mm 4), .ref (mm 5), .int 0, .int 0, .int 0, .int 0, .int 0, .int 0, .int 0, .int 0, .int 0, .int (-1), .int 0, .ref (mm 6), .int 0, .ref (mm 7), .ref (mm 8), .ref (mm 9), .int 0, .ref (mm 10), .ref (mm 11), .int 0, .int 0, .ref (mm 12), .ref (mm 13), .int 0, .ref (mm 14), .ref (mm 15), .ref (mm 16)])), ((mm 1), .inl (k 0, 1227, .inl v_15))]) ⟨hx, hb, hml, hown, hts⟩ (c_M_rains l D k _ 0 v_15 h_17) (gV mw_562 mw_563 mw_564 mw_5 mw_565) hd_yX8_rains rfl rfl ⟨Nat.le_of_ble_eq_true rfl, Nat.le_of_ble_eq_true rfl⟩ hK (hP.sub (ws' := [((mm 0), .inr (7, [.int 0, .ref (mm 1), .ref (mm 2), .ref (mm 3), .ref (mm 4), .ref (mm 5), .int 0, .int 0, .int 0, .int 0, .int 0, .int 0, .int 0, .int 0, .int 0, .int (-1), .int 0, .ref (mm 6), .int 0, .ref (mm 7), .ref (mm 8), .ref (mm 9), .int 0, .ref (mm 10), .ref (mm 11), .int 0, .int 0, .ref (mm 12), .ref (mm 13), .int 0, .ref (mm 14), .ref (mm 15), .ref (mm 16)])), ((mm 1), .inl (k 0, 1227, .inl v_15))]) [0, 1] rfl) rfl rfl rfl rfl hl.1 rfl (Nat.le_of_ble_eq_true rfl) dX8_drawn_145 ⟨Nat.le_of_ble_eq_true rfl, Nat.le_of_ble_eq_true rfl⟩ (fun r_25 hr_25 => ?_)
        obtain rfl : r_25 = 0 := hr_25
        refine lv_iadd hx hb dX8_drawn_148 ?_
        refine lv_ni (v := 0) (by decide) ?_
        refine lv_istore (lv' := [(4, .int 0), (3, .int z_20), (7, .int 0), (6, .int 0), (5, .int i_5), (0, .ref (mm 0)), (1, .int a), (2, .int x)]) hx hb dX8_drawn_149 hl (by decide) rfl (fun ls hl => ?_)
        obtain ⟨z_26, ez_26⟩ : ∃ y : Int32, y = i_5 + 1 := ⟨_, rfl⟩
        have tz_26 : z_26.toInt = i_5.toInt + 1 := by rw [ez_26]; exact ti_addc (by decide) (by omega) (by omega)
        refine lv_iinc (v := z_26) (lv' := [(5, .int z_26), (4, .int 0), (3, .int z_20), (7, .int 0), (6, .int 0), (0, .ref (mm 0)), (1, .int a), (2, .int x)]) hx hb dX8_drawn_151 hl (k := 4) rfl (ez_26.symm) (by decide) rfl (fun ls hl => ?_)
        refine lv_goto (tgt := 45) hx hb dX8_drawn_154 (by decide) ?_
        exact ih (z_26, v_15, v_16, z_20) _ _ ls (by show (x.toInt - z_26.toInt).toNat < (x.toInt - i_5.toInt).toNat; omega) ⟨(show 0 ≤ z_26.toInt ∧ z_26.toInt ≤ x.toInt from ⟨by omega, by omega⟩), h_17, h_18, hP.sub [0, 1, 2] rfl, hD.sub [0, 1, 2] (by decide) rfl, hS, lv_sub hl [0, 1, 2, 5, 6, 7] rfl⟩
  have hr_1 := hr_1.trans (if_neg hc_2)
  obtain rfl : r_1 = 0 := hr_1
  refine lv_if_ne (tgt := 20) hx hb dX8_drawn_14 (by decide) (fun c9 => absurd c9 (by decide)) (fun _ => ?_)
  refine lv_bipush (v := (-3)) hx hb dX8_drawn_17 (by decide) ?_
  have hP9 := hP.sub (ws' := []) [] rfl
  have hD9 := hD.sub (ws' := []) [] (by decide) rfl
  exact W.iret (v := (-3)) hx hb hr (fun t ht hW => ⟨⟨(-3), (), rfl, (by (repeat' split) <;> first | rfl | (exfalso; omega)), by rw [ht]; exact hP9, hD9⟩, hS.F ht⟩) hS.2.2 dX8_drawn_19
set_option maxHeartbeats 4000000 in
set_option maxRecDepth 100000 in
theorem c_M_leaks (l : Launch) (D : va_G) (k : Nat → ClassId) (mm : Nat → Nat) (f : Nat → Int32) (sz : Nat) (hf0 : f 0 = 0) : Met l yX8_leaks (Cond.code yX8_leaks cX8_leaks 1 (some .int) :: wsL_law) ({ frames := 1, cells := 0, slots := 0, locals := 60 } : Room) (va_Pc [.ref (mm 0)] (pu D k sz [((mm 0), .inr (7, [.int 0, .ref (mm 1), .ref (mm 2), .ref (mm 3), .ref (mm 4), .ref (mm 5), .int 0, .int 0, .int 0, .int 0, .int 0, .int 0, .int 0, .int 0, .int 0, .int (-1), .int 0, .ref (mm 6), .int 0, .ref (mm 7), .ref (mm 8), .ref (mm 9), .int 0, .ref (mm 10), .ref (mm 11), .int 0, .int 0, .ref (mm 12), .ref (mm 13), .int 0, .ref (mm 14), .ref (mm 15), .ref (mm 16)])), ((mm 1), .inl (k 0, 1227, .inl f))])) (va_Qi (fun rr (uu : Unit) => rr = 0) (qu D (va_A [((mm 0), .inr (7, [.int 0, .ref (mm 1), .ref (mm 2), .ref (mm 3), .ref (mm 4), .ref (mm 5), .int 0, .int 0, .int 0, .int 0, .int 0, .int 0, .int 0, .int 0, .int 0, .int (-1), .int 0, .ref (mm 6), .int 0, .ref (mm 7), .ref (mm 8), .ref (mm 9), .int 0, .ref (mm 10), .ref (mm 11), .int 0, .int 0, .ref (mm 12), .ref (mm 13), .int 0, .ref (mm 14), .ref (mm 15), .ref (mm 16)])), ((mm 1), .inl (k 0, 1227, .inl f))] sz) (fun uu : Unit => [])) (va_A [((mm 0), .inr (7, [.int 0, .ref (mm 1), .ref (mm 2), .ref (mm 3), .ref (mm 4), .ref (mm 5), .int 0, .int 0, .int 0, .int 0, .int 0, .int 0, .int 0, .int 0, .int 0, .int (-1), .int 0, .ref (mm 6), .int 0, .ref (mm 7), .ref (mm 8), .ref (mm 9), .int 0, .ref (mm 10), .ref (mm 11), .int 0, .int 0, .ref (mm 12), .ref (mm 13), .int 0, .ref (mm 14), .ref (mm 15), .ref (mm 16)])), ((mm 1), .inl (k 0, 1227, .inl f))] sz)) 0 0 (va_A [((mm 0), .inr (7, [.int 0, .ref (mm 1), .ref (mm 2), .ref (mm 3), .ref (mm 4), .ref (mm 5), .int 0, .int 0, .int 0, .int 0, .int 0, .int 0, .int 0, .int 0, .int 0, .int (-1), .int 0, .ref (mm 6), .int 0, .ref (mm 7), .ref (mm 8), .ref (mm 9), .int 0, .ref (mm 10), .ref (mm 11), .int 0, .int 0, .ref (mm 12), .ref (mm 13), .int 0, .ref (mm 14), .ref (mm 15), .ref (mm 16)])), ((mm 1), .inl (k 0, 1227, .inl f))] sz) := by
  refine Met.ofW (cc := cX8_leaks) (maxL := 1) (ret := (some .int)) (by decide) rfl ?_
  intro p e s m args below meth c s₁ B hml hv
  obtain ⟨rfl, hsz, hP, hK, hD0⟩ := hv
  have hx := B.exec
  have hb := B.bytes
  have hr := B.returns
  have hts : ∀ w ∈ wsL_law, w.before _ s = true := fun w h => atoms_spec (ws := Cond.code yX8_leaks cX8_leaks 1 (some .int) :: wsL_law) B.pre w (List.mem_cons_of_mem _ h)
  have hown : s.vm.findClass RX8 = some m.cls := findClass_of_methodNamed B.named
  have hlocks := B.notSynchronized
  subst hsz
  have hD := hD0.self (sz := s.heap.size)
  generalize hAe : va_A [((mm 0), .inr (7, [.int 0, .ref (mm 1), .ref (mm 2), .ref (mm 3), .ref (mm 4), .ref (mm 5), .int 0, .int 0, .int 0, .int 0, .int 0, .int 0, .int 0, .int 0, .int 0, .int (-1), .int 0, .ref (mm 6), .int 0, .ref (mm 7), .ref (mm 8), .ref (mm 9), .int 0, .ref (mm 10), .ref (mm 11), .int 0, .int 0, .ref (mm 12), .ref (mm 13), .int 0, .ref (mm 14), .ref (mm 15), .ref (mm 16)])), ((mm 1), .inl (k 0, 1227, .inl f))] s.heap.size = A at hD ⊢
  have hA : ∀ q : Nat, s.heap.size ≤ q → A q := fun q h => by rw [← hAe]; exact Or.inr h
  have hS : va_S A s.heap s.heap [] := va_S.rf
  have hP : va_P D vwCl [((mm 0), .inr (7, [.int 0, .ref (mm 1), .ref (mm 2), .ref (mm 3), .ref (mm 4), .ref (mm 5), .int 0, .int 0, .int 0, .int 0, .int 0, .int 0, .int 0, .int 0, .int 0, .int (-1), .int 0, .ref (mm 6), .int 0, .ref (mm 7), .ref (mm 8), .ref (mm 9), .int 0, .ref (mm 10), .ref (mm 11), .int 0, .int 0, .ref (mm 12), .ref (mm 13), .int 0, .ref (mm 14), .ref (mm 15), .ref (mm 16)])), ((mm 1), .inl (k 0, 1227, .inl f))] s.heap := hP
  have hl := lv_entry ([.ref (mm 0)]) (n := 1) (Nat.le_of_ble_eq_true rfl)
  rw [lg_entry_eq]
  generalize (lg_sl ([.ref (mm 0)]) ++ List.replicate (1 - (lg_sl ([.ref (mm 0)])).length) Slot.unset).toArray = ls at hl ⊢
  have hl : lv_has ls 1 [(0, .ref (mm 0))] := hl
  refine lv_aload_n hx hb dX8_leaks_0 rfl (lv_at hl 0 rfl) ?_
  refine lv_iconst (v := 0) hx hb dX8_leaks_1 (by decide) ?_
  refine va_put (D := D) (ci := 7) (v := .int 0) (ty := .int) (C := RX8) (T := TX8) (N := 33) hx hb hts inlX8 tyX8 tyX8_ok nmX8 hown hK hP hD hS 0 rfl rfl 0 (by decide) (hts _ mw_125) (fun _ h9 => h9) rfl (by decide +kernel) rfl rfl (Nat.le_of_ble_eq_true rfl) dX8_leaks_2 (fun H locs hP hD hS => ?_)
  have hP : va_P D vwCl [((mm 0), .inr (7, [.int 0, .ref (mm 1), .ref (mm 2), .ref (mm 3), .ref (mm 4), .ref (mm 5), .int 0, .int 0, .int 0, .int 0, .int 0, .int 0, .int 0, .int 0, .int 0, .int (-1), .int 0, .ref (mm 6), .int 0, .ref (mm 7), .ref (mm 8), .ref (mm 9), .int 0, .ref (mm 10), .ref (mm 11), .int 0, .int 0, .ref (mm 12), .ref (mm 13), .int 0, .ref (mm 14), .ref (mm 15), .ref (mm 16)])), ((mm 1), .inl (k 0, 1227, .inl f))] H := hP
  have hD : va_D A [((mm 0), .inr (7, [.int 0, .ref (mm 1), .ref (mm 2), .ref (mm 3), .ref (mm 4), .ref (mm 5), .int 0, .int 0, .int 0, .int 0, .int 0, .int 0, .int 0, .int 0, .int 0, .int (-1), .int 0, .ref (mm 6), .int 0, .ref (mm 7), .ref (mm 8), .ref (mm 9), .int 0, .ref (mm 10), .ref (mm 11), .int 0, .int 0, .ref (mm 12), .ref (mm 13), .int 0, .ref (mm 14), .ref (mm 15), .ref (mm 16)])), ((mm 1), .inl (k 0, 1227, .inl f))] := hD
  refine lv_aload_n hx hb dX8_leaks_5 rfl (lv_at hl 0 rfl) ?_
  refine kV_i (q0 := 0) (As := []) (rest := []) (cs := [((mm 0), .inr (7, [.int 0, .ref (mm 1), .ref (mm 2), .ref (mm 3), .ref (mm 4), .ref (mm 5), .int 0, .int 0, .int 0, .int 0, .int 0, .int 0, .int 0, .int 0, .int 0, .int (-1), .int 0, .ref (mm 6), .int 0, .ref (mm 7), .ref (mm 8), .ref (mm 9), .int 0, .ref (mm 10), .ref (mm 11), .int 0, .int 0, .ref (mm 12), .ref (mm 13), .int 0, .ref (mm 14), .ref (mm 15), .ref (mm 16)])), ((mm 1), .inl (k 0, 1227, .inl f))]) ⟨hx, hb, hml, hown, hts⟩ (c_M_dripping l D k _ 0 f hf0) (gV mw_544 mw_545 mw_546 mw_5 mw_547) hd_yX8_dripping rfl rfl ⟨Nat.le_of_ble_eq_true rfl, Nat.le_of_ble_eq_true rfl⟩ hK (hP.sub (ws' := [((mm 0), .inr (7, [.int 0, .ref (mm 1), .ref (mm 2), .ref (mm 3), .ref (mm 4), .ref (mm 5), .int 0, .int 0, .int 0, .int 0, .int 0, .int 0, .int 0, .int 0, .int 0, .int (-1), .int 0, .ref (mm 6), .int 0, .ref (mm 7), .ref (mm 8), .ref (mm 9), .int 0, .ref (mm 10), .ref (mm 11), .int 0, .int 0, .ref (mm 12), .ref (mm 13), .int 0, .ref (mm 14), .ref (mm 15), .ref (mm 16)])), ((mm 1), .inl (k 0, 1227, .inl f))]) [0, 1] rfl) rfl rfl rfl rfl hl.1 rfl (Nat.le_of_ble_eq_true rfl) dX8_leaks_6 ⟨Nat.le_of_ble_eq_true rfl, Nat.le_of_ble_eq_true rfl⟩ (fun r_1 hr_1 => ?_)
  obtain rfl : r_1 = 0 := hr_1
  have hP9 := hP.sub (ws' := []) [] rfl
  have hD9 := hD.sub (ws' := []) [] (by decide) rfl
  exact W.iret (v := 0) hx hb hr (fun t ht hW => ⟨⟨0, (), rfl, rfl, by rw [ht]; exact hP9, hD9⟩, hS.F ht⟩) hS.2.2 dX8_leaks_9
set_option maxHeartbeats 4000000 in
set_option maxRecDepth 100000 in
theorem c_M_harm (l : Launch) (D : va_G) (k : Nat → ClassId) (mm : Nat → Nat) (f : Nat → Int32) (a : Int32) (x : Int32) (sz : Nat) (hf0 : f 0 = 0) : Met l yX8_harm (Cond.code yX8_harm cX8_harm 3 (some .int) :: wsL_law) ({ frames := 3, cells := 0, slots := 0, locals := 180 } : Room) (va_Pc [.ref (mm 0), .int a, .int x] (pu D k sz [((mm 0), .inr (7, [.int 0, .ref (mm 1), .ref (mm 2), .ref (mm 3), .ref (mm 4), .ref (mm 5), .int 0, .int 0, .int 0, .int 0, .int 0, .int 0, .int 0, .int 0, .int 0, .int (-1), .int 0, .ref (mm 6), .int 0, .ref (mm 7), .ref (mm 8), .ref (mm 9), .int 0, .ref (mm 10), .ref (mm 11), .int 0, .int 0, .ref (mm 12), .ref (mm 13), .int 0, .ref (mm 14), .ref (mm 15), .ref (mm 16)])), ((mm 1), .inl (k 0, 1227, .inl f)), ((mm 2), .inl (k 0, 409, .inl (fun _ => 0))), ((mm 6), .inl (k 0, 2454, .inl (fun _ => 0))), ((mm 7), .inl (k 0, 10, .inl (fun _ => 0)))])) (va_Qi (fun rr (uu : Unit) => rr = if a.toInt = 0 ∧ 1 ≤ x.toInt ∧ x.toInt ≤ 12 then 0 else (-3)) (qu D (va_A [((mm 0), .inr (7, [.int 0, .ref (mm 1), .ref (mm 2), .ref (mm 3), .ref (mm 4), .ref (mm 5), .int 0, .int 0, .int 0, .int 0, .int 0, .int 0, .int 0, .int 0, .int 0, .int (-1), .int 0, .ref (mm 6), .int 0, .ref (mm 7), .ref (mm 8), .ref (mm 9), .int 0, .ref (mm 10), .ref (mm 11), .int 0, .int 0, .ref (mm 12), .ref (mm 13), .int 0, .ref (mm 14), .ref (mm 15), .ref (mm 16)])), ((mm 1), .inl (k 0, 1227, .inl f)), ((mm 2), .inl (k 0, 409, .inl (fun _ => 0))), ((mm 6), .inl (k 0, 2454, .inl (fun _ => 0))), ((mm 7), .inl (k 0, 10, .inl (fun _ => 0)))] sz) (fun uu : Unit => [])) (va_A [((mm 0), .inr (7, [.int 0, .ref (mm 1), .ref (mm 2), .ref (mm 3), .ref (mm 4), .ref (mm 5), .int 0, .int 0, .int 0, .int 0, .int 0, .int 0, .int 0, .int 0, .int 0, .int (-1), .int 0, .ref (mm 6), .int 0, .ref (mm 7), .ref (mm 8), .ref (mm 9), .int 0, .ref (mm 10), .ref (mm 11), .int 0, .int 0, .ref (mm 12), .ref (mm 13), .int 0, .ref (mm 14), .ref (mm 15), .ref (mm 16)])), ((mm 1), .inl (k 0, 1227, .inl f)), ((mm 2), .inl (k 0, 409, .inl (fun _ => 0))), ((mm 6), .inl (k 0, 2454, .inl (fun _ => 0))), ((mm 7), .inl (k 0, 10, .inl (fun _ => 0)))] sz)) 0 0 (va_A [((mm 0), .inr (7, [.int 0, .ref (mm 1), .ref (mm 2), .ref (mm 3), .ref (mm 4), .ref (mm 5), .int 0, .int 0, .int 0, .int 0, .int 0, .int 0, .int 0, .int 0, .int 0, .int (-1), .int 0, .ref (mm 6), .int 0, .ref (mm 7), .ref (mm 8), .ref (mm 9), .int 0, .ref (mm 10), .ref (mm 11), .int 0, .int 0, .ref (mm 12), .ref (mm 13), .int 0, .ref (mm 14), .ref (mm 15), .ref (mm 16)])), ((mm 1), .inl (k 0, 1227, .inl f)), ((mm 2), .inl (k 0, 409, .inl (fun _ => 0))), ((mm 6), .inl (k 0, 2454, .inl (fun _ => 0))), ((mm 7), .inl (k 0, 10, .inl (fun _ => 0)))] sz) := by
  refine Met.ofW (cc := cX8_harm) (maxL := 3) (ret := (some .int)) (by decide) rfl ?_
  intro p e s m args below meth c s₁ B hml hv
  obtain ⟨rfl, hsz, hP, hK, hD0⟩ := hv
  have hx := B.exec
  have hb := B.bytes
  have hr := B.returns
  have hts : ∀ w ∈ wsL_law, w.before _ s = true := fun w h => atoms_spec (ws := Cond.code yX8_harm cX8_harm 3 (some .int) :: wsL_law) B.pre w (List.mem_cons_of_mem _ h)
  have hown : s.vm.findClass RX8 = some m.cls := findClass_of_methodNamed B.named
  have hlocks := B.notSynchronized
  subst hsz
  have hD := hD0.self (sz := s.heap.size)
  generalize hAe : va_A [((mm 0), .inr (7, [.int 0, .ref (mm 1), .ref (mm 2), .ref (mm 3), .ref (mm 4), .ref (mm 5), .int 0, .int 0, .int 0, .int 0, .int 0, .int 0, .int 0, .int 0, .int 0, .int (-1), .int 0, .ref (mm 6), .int 0, .ref (mm 7), .ref (mm 8), .ref (mm 9), .int 0, .ref (mm 10), .ref (mm 11), .int 0, .int 0, .ref (mm 12), .ref (mm 13), .int 0, .ref (mm 14), .ref (mm 15), .ref (mm 16)])), ((mm 1), .inl (k 0, 1227, .inl f)), ((mm 2), .inl (k 0, 409, .inl (fun _ => 0))), ((mm 6), .inl (k 0, 2454, .inl (fun _ => 0))), ((mm 7), .inl (k 0, 10, .inl (fun _ => 0)))] s.heap.size = A at hD ⊢
  have hA : ∀ q : Nat, s.heap.size ≤ q → A q := fun q h => by rw [← hAe]; exact Or.inr h
  have hS : va_S A s.heap s.heap [] := va_S.rf
  have hP : va_P D vwCl [((mm 0), .inr (7, [.int 0, .ref (mm 1), .ref (mm 2), .ref (mm 3), .ref (mm 4), .ref (mm 5), .int 0, .int 0, .int 0, .int 0, .int 0, .int 0, .int 0, .int 0, .int 0, .int (-1), .int 0, .ref (mm 6), .int 0, .ref (mm 7), .ref (mm 8), .ref (mm 9), .int 0, .ref (mm 10), .ref (mm 11), .int 0, .int 0, .ref (mm 12), .ref (mm 13), .int 0, .ref (mm 14), .ref (mm 15), .ref (mm 16)])), ((mm 1), .inl (k 0, 1227, .inl f)), ((mm 2), .inl (k 0, 409, .inl (fun _ => 0))), ((mm 6), .inl (k 0, 2454, .inl (fun _ => 0))), ((mm 7), .inl (k 0, 10, .inl (fun _ => 0)))] s.heap := hP
  have hl := lv_entry ([.ref (mm 0), .int a, .int x]) (n := 3) (Nat.le_of_ble_eq_true rfl)
  rw [lg_entry_eq]
  generalize (lg_sl ([.ref (mm 0), .int a, .int x]) ++ List.replicate (3 - (lg_sl ([.ref (mm 0), .int a, .int x])).length) Slot.unset).toArray = ls at hl ⊢
  have hl : lv_has ls 3 [(0, .ref (mm 0)), (1, .int a), (2, .int x)] := hl
  refine lv_aload_n hx hb dX8_harm_0 rfl (lv_at hl 0 rfl) ?_
  refine lv_iconst (v := 0) hx hb dX8_harm_1 (by decide) ?_
  refine va_put (D := D) (ci := 7) (v := .int 0) (ty := .int) (C := RX8) (T := TX8) (N := 33) hx hb hts inlX8 tyX8 tyX8_ok nmX8 hown hK hP hD hS 0 rfl rfl 0 (by decide) (hts _ mw_125) (fun _ h9 => h9) rfl (by decide +kernel) rfl rfl (Nat.le_of_ble_eq_true rfl) dX8_harm_2 (fun H locs hP hD hS => ?_)
  have hP : va_P D vwCl [((mm 0), .inr (7, [.int 0, .ref (mm 1), .ref (mm 2), .ref (mm 3), .ref (mm 4), .ref (mm 5), .int 0, .int 0, .int 0, .int 0, .int 0, .int 0, .int 0, .int 0, .int 0, .int (-1), .int 0, .ref (mm 6), .int 0, .ref (mm 7), .ref (mm 8), .ref (mm 9), .int 0, .ref (mm 10), .ref (mm 11), .int 0, .int 0, .ref (mm 12), .ref (mm 13), .int 0, .ref (mm 14), .ref (mm 15), .ref (mm 16)])), ((mm 1), .inl (k 0, 1227, .inl f)), ((mm 2), .inl (k 0, 409, .inl (fun _ => 0))), ((mm 6), .inl (k 0, 2454, .inl (fun _ => 0))), ((mm 7), .inl (k 0, 10, .inl (fun _ => 0)))] H := hP
  have hD : va_D A [((mm 0), .inr (7, [.int 0, .ref (mm 1), .ref (mm 2), .ref (mm 3), .ref (mm 4), .ref (mm 5), .int 0, .int 0, .int 0, .int 0, .int 0, .int 0, .int 0, .int 0, .int 0, .int (-1), .int 0, .ref (mm 6), .int 0, .ref (mm 7), .ref (mm 8), .ref (mm 9), .int 0, .ref (mm 10), .ref (mm 11), .int 0, .int 0, .ref (mm 12), .ref (mm 13), .int 0, .ref (mm 14), .ref (mm 15), .ref (mm 16)])), ((mm 1), .inl (k 0, 1227, .inl f)), ((mm 2), .inl (k 0, 409, .inl (fun _ => 0))), ((mm 6), .inl (k 0, 2454, .inl (fun _ => 0))), ((mm 7), .inl (k 0, 10, .inl (fun _ => 0)))] := hD
  refine lv_aload_n hx hb dX8_harm_5 rfl (lv_at hl 0 rfl) ?_
  refine lv_iload_n hx hb dX8_harm_6 rfl (lv_at hl 1 rfl) ?_
  refine lv_i2l (v := a.toInt64) hx hb dX8_harm_7 rfl ?_
  refine kV_i (q0 := 0) (As := [.long a.toInt64]) (rest := []) (cs := [((mm 0), .inr (7, [.int 0, .ref (mm 1), .ref (mm 2), .ref (mm 3), .ref (mm 4), .ref (mm 5), .int 0, .int 0, .int 0, .int 0, .int 0, .int 0, .int 0, .int 0, .int 0, .int (-1), .int 0, .ref (mm 6), .int 0, .ref (mm 7), .ref (mm 8), .ref (mm 9), .int 0, .ref (mm 10), .ref (mm 11), .int 0, .int 0, .ref (mm 12), .ref (mm 13), .int 0, .ref (mm 14), .ref (mm 15), .ref (mm 16)])), ((mm 1), .inl (k 0, 1227, .inl f))]) ⟨hx, hb, hml, hown, hts⟩ (c_M_maySkip l D k _ 0 f a hf0) (gV mw_736 mw_737 mw_738 mw_5 mw_739) hd_yX8_maySkip rfl rfl ⟨Nat.le_of_ble_eq_true rfl, Nat.le_of_ble_eq_true rfl⟩ hK (hP.sub (ws' := [((mm 0), .inr (7, [.int 0, .ref (mm 1), .ref (mm 2), .ref (mm 3), .ref (mm 4), .ref (mm 5), .int 0, .int 0, .int 0, .int 0, .int 0, .int 0, .int 0, .int 0, .int 0, .int (-1), .int 0, .ref (mm 6), .int 0, .ref (mm 7), .ref (mm 8), .ref (mm 9), .int 0, .ref (mm 10), .ref (mm 11), .int 0, .int 0, .ref (mm 12), .ref (mm 13), .int 0, .ref (mm 14), .ref (mm 15), .ref (mm 16)])), ((mm 1), .inl (k 0, 1227, .inl f))]) [0, 1] rfl) rfl rfl rfl rfl hl.1 rfl (Nat.le_of_ble_eq_true rfl) dX8_harm_8 ⟨Nat.le_of_ble_eq_true rfl, Nat.le_of_ble_eq_true rfl⟩ (fun r_1 hr_1 => ?_)
  by_cases hc_2 : a.toInt = 0
  · obtain rfl : r_1 = 1 := hr_1.trans (if_pos hc_2)
    have q_3 : a = 0 := ti_of (show a.toInt = 0 from by omega)
    refine lv_if_eq (tgt := 26) hx hb dX8_harm_11 (by decide) (fun c9 => absurd c9 (by decide)) (fun _ => ?_)
    refine lv_iload_n hx hb dX8_harm_14 rfl (lv_at hl 2 rfl) ?_
    refine lv_i2l (v := x.toInt64) hx hb dX8_harm_15 rfl ?_
    refine lv_lconst (v := 1) hx hb dX8_harm_16 (by decide) ?_
    refine lv_ldc2 (own := RX8) (index := 244) (v := 12) hx hb hown (hts _ mw_735) dX8_harm_17 ?_
    refine kS_i (As := [.long x.toInt64, .long 1, .long 12]) (rest := []) (cs := []) ⟨hx, hb, hml, hown, hts⟩ (c_M_within l D k x 1 12) (gS mw_294 mw_295 mw_5 mw_296) hd_yX8_within rfl rfl ⟨Nat.le_of_ble_eq_true rfl, Nat.le_of_ble_eq_true rfl⟩ hK (hP.sub (ws' := []) [] rfl) rfl hl.1 rfl (Nat.le_of_ble_eq_true rfl) dX8_harm_20 ⟨Nat.le_of_ble_eq_true rfl, Nat.le_of_ble_eq_true rfl⟩ (fun r_4 hr_4 => ?_)
    by_cases hc_5 : 1 ≤ x.toInt ∧ x.toInt ≤ 12
    · obtain rfl : r_4 = 1 := hr_4.trans (if_pos hc_5)
      refine lv_if_ne (tgt := 29) hx hb dX8_harm_23 (by decide) (fun _ => ?_) (fun c9 => absurd c9 (by decide))
      refine lv_aload_n hx hb dX8_harm_29 rfl (lv_at hl 0 rfl) ?_
      refine lv_iload_n hx hb dX8_harm_30 rfl (lv_at hl 1 rfl) ?_
      refine lv_ni (v := 0) (q_3) ?_
      refine lv_iload_n hx hb dX8_harm_31 rfl (lv_at hl 2 rfl) ?_
      refine kV_ui (q0 := 0) (As := [.int 0, .int x]) (rest := []) (wc := [((mm 0), .inr (7, [.int 0, .ref (mm 1), .ref (mm 2), .ref (mm 3), .ref (mm 4), .ref (mm 5), .int 0, .int 0, .int 0, .int 0, .int 0, .int 0, .int 0, .int 0, .int 0, .int (-1), .int 0, .ref (mm 6), .int 0, .ref (mm 7), .ref (mm 8), .ref (mm 9), .int 0, .ref (mm 10), .ref (mm 11), .int 0, .int 0, .ref (mm 12), .ref (mm 13), .int 0, .ref (mm 14), .ref (mm 15), .ref (mm 16)])), ((mm 1), .inl (k 0, 1227, .inl f)), ((mm 2), .inl (k 0, 409, .inl (fun _ => 0))), ((mm 6), .inl (k 0, 2454, .inl (fun _ => 0))), ((mm 7), .inl (k 0, 10, .inl (fun _ => 0)))]) (wr := []) ⟨hx, hb, hml, hown, hts⟩ (c_M_laysDrips0 l D k _ 0 f (fun _ => 0) (fun _ => 0) x _ hf0 rfl KZ_0 (by omega)) (gV mw_740 mw_741 mw_742 mw_5 mw_743) hd_yX8_laysDrips rfl rfl ⟨Nat.le_of_ble_eq_true rfl, Nat.le_of_ble_eq_true rfl⟩ hK hP hD hS hA [0, 1, 2, 3, 4] [] rfl rfl (by decide) (by decide) (by decide) rfl rfl rfl rfl hl.1 rfl (Nat.le_of_ble_eq_true rfl) dX8_harm_32 ⟨Nat.le_of_ble_eq_true rfl, Nat.le_of_ble_eq_true rfl⟩ (fun r_6 u_7 H locs hw hP hD hS => ?_)
      obtain ⟨v_8, v_9, v_10⟩ := u_7
      obtain ⟨hr_6, h_11, h_12, h_13⟩ := hw
      have h_11 : v_8 0 = 0 := h_11
      have h_12 : v_9 0 = 0 := h_12
      have h_13 : KZ v_10 := h_13
      have hP : va_P D vwCl [((mm 0), .inr (7, [.int 0, .ref (mm 1), .ref (mm 2), .ref (mm 3), .ref (mm 4), .ref (mm 5), .int 0, .int 0, .int 0, .int 0, .int 0, .int 0, .int 0, .int 0, .int 0, .int (-1), .int 0, .ref (mm 6), .int 0, .ref (mm 7), .ref (mm 8), .ref (mm 9), .int 0, .ref (mm 10), .ref (mm 11), .int 0, .int 0, .ref (mm 12), .ref (mm 13), .int 0, .ref (mm 14), .ref (mm 15), .ref (mm 16)])), ((mm 1), .inl (k 0, 1227, .inl v_8)), ((mm 2), .inl (k 0, 409, .inl v_9)), ((mm 6), .inl (k 0, 2454, .inl v_10)), ((mm 7), .inl (k 0, 10, .inl (fun _ => 0)))] H := hP
      have hD : va_D A [((mm 0), .inr (7, [.int 0, .ref (mm 1), .ref (mm 2), .ref (mm 3), .ref (mm 4), .ref (mm 5), .int 0, .int 0, .int 0, .int 0, .int 0, .int 0, .int 0, .int 0, .int 0, .int (-1), .int 0, .ref (mm 6), .int 0, .ref (mm 7), .ref (mm 8), .ref (mm 9), .int 0, .ref (mm 10), .ref (mm 11), .int 0, .int 0, .ref (mm 12), .ref (mm 13), .int 0, .ref (mm 14), .ref (mm 15), .ref (mm 16)])), ((mm 1), .inl (k 0, 1227, .inl v_8)), ((mm 2), .inl (k 0, 409, .inl v_9)), ((mm 6), .inl (k 0, 2454, .inl v_10)), ((mm 7), .inl (k 0, 10, .inl (fun _ => 0)))] := hD
      obtain rfl : r_6 = 0 := hr_6
      refine lv_aload_n hx hb dX8_harm_35 rfl (lv_at hl 0 rfl) ?_
      refine lv_iconst (v := 0) hx hb dX8_harm_36 (by decide) ?_
      refine lv_iload_n hx hb dX8_harm_37 rfl (lv_at hl 2 rfl) ?_
      refine kV_ui (q0 := 0) (As := [.int 0, .int x]) (rest := [.int 0]) (wc := [((mm 0), .inr (7, [.int 0, .ref (mm 1), .ref (mm 2), .ref (mm 3), .ref (mm 4), .ref (mm 5), .int 0, .int 0, .int 0, .int 0, .int 0, .int 0, .int 0, .int 0, .int 0, .int (-1), .int 0, .ref (mm 6), .int 0, .ref (mm 7), .ref (mm 8), .ref (mm 9), .int 0, .ref (mm 10), .ref (mm 11), .int 0, .int 0, .ref (mm 12), .ref (mm 13), .int 0, .ref (mm 14), .ref (mm 15), .ref (mm 16)])), ((mm 1), .inl (k 0, 1227, .inl v_8)), ((mm 2), .inl (k 0, 409, .inl v_9)), ((mm 6), .inl (k 0, 2454, .inl v_10)), ((mm 7), .inl (k 0, 10, .inl (fun _ => 0)))]) (wr := []) ⟨hx, hb, hml, hown, hts⟩ (c_M_laysDrips0 l D k _ 0 v_8 v_9 v_10 x _ h_11 h_12 h_13 (by omega)) (gV mw_740 mw_741 mw_742 mw_5 mw_743) hd_yX8_laysDrips rfl rfl ⟨Nat.le_of_ble_eq_true rfl, Nat.le_of_ble_eq_true rfl⟩ hK hP hD hS hA [0, 1, 2, 3, 4] [] rfl rfl (by decide) (by decide) (by decide) rfl rfl rfl rfl hl.1 rfl (Nat.le_of_ble_eq_true rfl) dX8_harm_38 ⟨Nat.le_of_ble_eq_true rfl, Nat.le_of_ble_eq_true rfl⟩ (fun r_14 u_15 H locs hw hP hD hS => ?_)
      obtain ⟨v_16, v_17, v_18⟩ := u_15
      obtain ⟨hr_14, h_19, h_20, h_21⟩ := hw
      have h_19 : v_16 0 = 0 := h_19
      have h_20 : v_17 0 = 0 := h_20
      have h_21 : KZ v_18 := h_21
      have hP : va_P D vwCl [((mm 0), .inr (7, [.int 0, .ref (mm 1), .ref (mm 2), .ref (mm 3), .ref (mm 4), .ref (mm 5), .int 0, .int 0, .int 0, .int 0, .int 0, .int 0, .int 0, .int 0, .int 0, .int (-1), .int 0, .ref (mm 6), .int 0, .ref (mm 7), .ref (mm 8), .ref (mm 9), .int 0, .ref (mm 10), .ref (mm 11), .int 0, .int 0, .ref (mm 12), .ref (mm 13), .int 0, .ref (mm 14), .ref (mm 15), .ref (mm 16)])), ((mm 1), .inl (k 0, 1227, .inl v_16)), ((mm 2), .inl (k 0, 409, .inl v_17)), ((mm 6), .inl (k 0, 2454, .inl v_18)), ((mm 7), .inl (k 0, 10, .inl (fun _ => 0)))] H := hP
      have hD : va_D A [((mm 0), .inr (7, [.int 0, .ref (mm 1), .ref (mm 2), .ref (mm 3), .ref (mm 4), .ref (mm 5), .int 0, .int 0, .int 0, .int 0, .int 0, .int 0, .int 0, .int 0, .int 0, .int (-1), .int 0, .ref (mm 6), .int 0, .ref (mm 7), .ref (mm 8), .ref (mm 9), .int 0, .ref (mm 10), .ref (mm 11), .int 0, .int 0, .ref (mm 12), .ref (mm 13), .int 0, .ref (mm 14), .ref (mm 15), .ref (mm 16)])), ((mm 1), .inl (k 0, 1227, .inl v_16)), ((mm 2), .inl (k 0, 409, .inl v_17)), ((mm 6), .inl (k 0, 2454, .inl v_18)), ((mm 7), .inl (k 0, 10, .inl (fun _ => 0)))] := hD
      obtain rfl : r_14 = 0 := hr_14
      refine lv_isub hx hb dX8_harm_41 ?_
      refine lv_ni (v := 0) (by decide) ?_
      have hP9 := hP.sub (ws' := []) [] rfl
      have hD9 := hD.sub (ws' := []) [] (by decide) rfl
      exact W.iret (v := 0) hx hb hr (fun t ht hW => ⟨⟨0, (), rfl, (by (repeat' split) <;> first | rfl | (exfalso; omega)), by rw [ht]; exact hP9, hD9⟩, hS.F ht⟩) hS.2.2 dX8_harm_42
    have hr_4 := hr_4.trans (if_neg hc_5)
    obtain rfl : r_4 = 0 := hr_4
    refine lv_if_ne (tgt := 29) hx hb dX8_harm_23 (by decide) (fun c9 => absurd c9 (by decide)) (fun _ => ?_)
    refine lv_bipush (v := (-3)) hx hb dX8_harm_26 (by decide) ?_
    have hP9 := hP.sub (ws' := []) [] rfl
    have hD9 := hD.sub (ws' := []) [] (by decide) rfl
    exact W.iret (v := (-3)) hx hb hr (fun t ht hW => ⟨⟨(-3), (), rfl, (by (repeat' split) <;> first | rfl | (exfalso; omega)), by rw [ht]; exact hP9, hD9⟩, hS.F ht⟩) hS.2.2 dX8_harm_28
  have hr_1 := hr_1.trans (if_neg hc_2)
  obtain rfl : r_1 = 0 := hr_1
  refine lv_if_eq (tgt := 26) hx hb dX8_harm_11 (by decide) (fun _ => ?_) (fun c9 => absurd c9 (by decide))
  refine lv_bipush (v := (-3)) hx hb dX8_harm_26 (by decide) ?_
  have hP9 := hP.sub (ws' := []) [] rfl
  have hD9 := hD.sub (ws' := []) [] (by decide) rfl
  exact W.iret (v := (-3)) hx hb hr (fun t ht hW => ⟨⟨(-3), (), rfl, (by (repeat' split) <;> first | rfl | (exfalso; omega)), by rw [ht]; exact hP9, hD9⟩, hS.F ht⟩) hS.2.2 dX8_harm_28
set_option maxHeartbeats 4000000 in
set_option maxRecDepth 100000 in
theorem c_M_may (l : Launch) (D : va_G) (k : Nat → ClassId) (mm : Nat → Nat) (f : Nat → Int32) (a : Int32) (sz : Nat) (hf0 : f 0 = 0) : Met l yX8_may (Cond.code yX8_may cX8_may 5 (some .int) :: wsL_law) ({ frames := 3, cells := 0, slots := 0, locals := 180 } : Room) (va_Pc [.ref (mm 0), .int a] (pu D k sz [((mm 0), .inr (7, [.int 0, .ref (mm 1), .ref (mm 2), .ref (mm 3), .ref (mm 4), .ref (mm 5), .int 0, .int 0, .int 0, .int 0, .int 0, .int 0, .int 0, .int 0, .int 0, .int (-1), .int 0, .ref (mm 6), .int 0, .ref (mm 7), .ref (mm 8), .ref (mm 9), .int 0, .ref (mm 10), .ref (mm 11), .int 0, .int 0, .ref (mm 12), .ref (mm 13), .int 0, .ref (mm 14), .ref (mm 15), .ref (mm 16)])), ((mm 1), .inl (k 0, 1227, .inl f)), ((mm 2), .inl (k 0, 409, .inl (fun _ => 0))), ((mm 6), .inl (k 0, 2454, .inl (fun _ => 0))), ((mm 7), .inl (k 0, 10, .inl (fun _ => 0)))])) (va_Qi (fun rr (uu : Unit) => rr = if 1 ≤ a.toInt ∧ a.toInt ≤ 12 then 0 else (-3)) (qu D (va_A [((mm 0), .inr (7, [.int 0, .ref (mm 1), .ref (mm 2), .ref (mm 3), .ref (mm 4), .ref (mm 5), .int 0, .int 0, .int 0, .int 0, .int 0, .int 0, .int 0, .int 0, .int 0, .int (-1), .int 0, .ref (mm 6), .int 0, .ref (mm 7), .ref (mm 8), .ref (mm 9), .int 0, .ref (mm 10), .ref (mm 11), .int 0, .int 0, .ref (mm 12), .ref (mm 13), .int 0, .ref (mm 14), .ref (mm 15), .ref (mm 16)])), ((mm 1), .inl (k 0, 1227, .inl f)), ((mm 2), .inl (k 0, 409, .inl (fun _ => 0))), ((mm 6), .inl (k 0, 2454, .inl (fun _ => 0))), ((mm 7), .inl (k 0, 10, .inl (fun _ => 0)))] sz) (fun uu : Unit => [])) (va_A [((mm 0), .inr (7, [.int 0, .ref (mm 1), .ref (mm 2), .ref (mm 3), .ref (mm 4), .ref (mm 5), .int 0, .int 0, .int 0, .int 0, .int 0, .int 0, .int 0, .int 0, .int 0, .int (-1), .int 0, .ref (mm 6), .int 0, .ref (mm 7), .ref (mm 8), .ref (mm 9), .int 0, .ref (mm 10), .ref (mm 11), .int 0, .int 0, .ref (mm 12), .ref (mm 13), .int 0, .ref (mm 14), .ref (mm 15), .ref (mm 16)])), ((mm 1), .inl (k 0, 1227, .inl f)), ((mm 2), .inl (k 0, 409, .inl (fun _ => 0))), ((mm 6), .inl (k 0, 2454, .inl (fun _ => 0))), ((mm 7), .inl (k 0, 10, .inl (fun _ => 0)))] sz)) 0 0 (va_A [((mm 0), .inr (7, [.int 0, .ref (mm 1), .ref (mm 2), .ref (mm 3), .ref (mm 4), .ref (mm 5), .int 0, .int 0, .int 0, .int 0, .int 0, .int 0, .int 0, .int 0, .int 0, .int (-1), .int 0, .ref (mm 6), .int 0, .ref (mm 7), .ref (mm 8), .ref (mm 9), .int 0, .ref (mm 10), .ref (mm 11), .int 0, .int 0, .ref (mm 12), .ref (mm 13), .int 0, .ref (mm 14), .ref (mm 15), .ref (mm 16)])), ((mm 1), .inl (k 0, 1227, .inl f)), ((mm 2), .inl (k 0, 409, .inl (fun _ => 0))), ((mm 6), .inl (k 0, 2454, .inl (fun _ => 0))), ((mm 7), .inl (k 0, 10, .inl (fun _ => 0)))] sz) := by
  refine Met.ofW (cc := cX8_may) (maxL := 5) (ret := (some .int)) (by decide) rfl ?_
  intro p e s m args below meth c s₁ B hml hv
  obtain ⟨rfl, hsz, hP, hK, hD0⟩ := hv
  have hx := B.exec
  have hb := B.bytes
  have hr := B.returns
  have hts : ∀ w ∈ wsL_law, w.before _ s = true := fun w h => atoms_spec (ws := Cond.code yX8_may cX8_may 5 (some .int) :: wsL_law) B.pre w (List.mem_cons_of_mem _ h)
  have hown : s.vm.findClass RX8 = some m.cls := findClass_of_methodNamed B.named
  have hlocks := B.notSynchronized
  subst hsz
  have hD := hD0.self (sz := s.heap.size)
  generalize hAe : va_A [((mm 0), .inr (7, [.int 0, .ref (mm 1), .ref (mm 2), .ref (mm 3), .ref (mm 4), .ref (mm 5), .int 0, .int 0, .int 0, .int 0, .int 0, .int 0, .int 0, .int 0, .int 0, .int (-1), .int 0, .ref (mm 6), .int 0, .ref (mm 7), .ref (mm 8), .ref (mm 9), .int 0, .ref (mm 10), .ref (mm 11), .int 0, .int 0, .ref (mm 12), .ref (mm 13), .int 0, .ref (mm 14), .ref (mm 15), .ref (mm 16)])), ((mm 1), .inl (k 0, 1227, .inl f)), ((mm 2), .inl (k 0, 409, .inl (fun _ => 0))), ((mm 6), .inl (k 0, 2454, .inl (fun _ => 0))), ((mm 7), .inl (k 0, 10, .inl (fun _ => 0)))] s.heap.size = A at hD ⊢
  have hA : ∀ q : Nat, s.heap.size ≤ q → A q := fun q h => by rw [← hAe]; exact Or.inr h
  have hS : va_S A s.heap s.heap [] := va_S.rf
  have hP : va_P D vwCl [((mm 0), .inr (7, [.int 0, .ref (mm 1), .ref (mm 2), .ref (mm 3), .ref (mm 4), .ref (mm 5), .int 0, .int 0, .int 0, .int 0, .int 0, .int 0, .int 0, .int 0, .int 0, .int (-1), .int 0, .ref (mm 6), .int 0, .ref (mm 7), .ref (mm 8), .ref (mm 9), .int 0, .ref (mm 10), .ref (mm 11), .int 0, .int 0, .ref (mm 12), .ref (mm 13), .int 0, .ref (mm 14), .ref (mm 15), .ref (mm 16)])), ((mm 1), .inl (k 0, 1227, .inl f)), ((mm 2), .inl (k 0, 409, .inl (fun _ => 0))), ((mm 6), .inl (k 0, 2454, .inl (fun _ => 0))), ((mm 7), .inl (k 0, 10, .inl (fun _ => 0)))] s.heap := hP
  have hl := lv_entry ([.ref (mm 0), .int a]) (n := 5) (Nat.le_of_ble_eq_true rfl)
  rw [lg_entry_eq]
  generalize (lg_sl ([.ref (mm 0), .int a]) ++ List.replicate (5 - (lg_sl ([.ref (mm 0), .int a])).length) Slot.unset).toArray = ls at hl ⊢
  have hl : lv_has ls 5 [(0, .ref (mm 0)), (1, .int a)] := hl
  refine lv_aload_n hx hb dX8_may_0 rfl (lv_at hl 0 rfl) ?_
  refine lv_iconst (v := 0) hx hb dX8_may_1 (by decide) ?_
  refine va_put (D := D) (ci := 7) (v := .int 0) (ty := .int) (C := RX8) (T := TX8) (N := 33) hx hb hts inlX8 tyX8 tyX8_ok nmX8 hown hK hP hD hS 0 rfl rfl 0 (by decide) (hts _ mw_125) (fun _ h9 => h9) rfl (by decide +kernel) rfl rfl (Nat.le_of_ble_eq_true rfl) dX8_may_2 (fun H locs hP hD hS => ?_)
  have hP : va_P D vwCl [((mm 0), .inr (7, [.int 0, .ref (mm 1), .ref (mm 2), .ref (mm 3), .ref (mm 4), .ref (mm 5), .int 0, .int 0, .int 0, .int 0, .int 0, .int 0, .int 0, .int 0, .int 0, .int (-1), .int 0, .ref (mm 6), .int 0, .ref (mm 7), .ref (mm 8), .ref (mm 9), .int 0, .ref (mm 10), .ref (mm 11), .int 0, .int 0, .ref (mm 12), .ref (mm 13), .int 0, .ref (mm 14), .ref (mm 15), .ref (mm 16)])), ((mm 1), .inl (k 0, 1227, .inl f)), ((mm 2), .inl (k 0, 409, .inl (fun _ => 0))), ((mm 6), .inl (k 0, 2454, .inl (fun _ => 0))), ((mm 7), .inl (k 0, 10, .inl (fun _ => 0)))] H := hP
  have hD : va_D A [((mm 0), .inr (7, [.int 0, .ref (mm 1), .ref (mm 2), .ref (mm 3), .ref (mm 4), .ref (mm 5), .int 0, .int 0, .int 0, .int 0, .int 0, .int 0, .int 0, .int 0, .int 0, .int (-1), .int 0, .ref (mm 6), .int 0, .ref (mm 7), .ref (mm 8), .ref (mm 9), .int 0, .ref (mm 10), .ref (mm 11), .int 0, .int 0, .ref (mm 12), .ref (mm 13), .int 0, .ref (mm 14), .ref (mm 15), .ref (mm 16)])), ((mm 1), .inl (k 0, 1227, .inl f)), ((mm 2), .inl (k 0, 409, .inl (fun _ => 0))), ((mm 6), .inl (k 0, 2454, .inl (fun _ => 0))), ((mm 7), .inl (k 0, 10, .inl (fun _ => 0)))] := hD
  refine lv_iload_n hx hb dX8_may_5 rfl (lv_at hl 1 rfl) ?_
  refine lv_i2l (v := a.toInt64) hx hb dX8_may_6 rfl ?_
  refine lv_lconst (v := 1) hx hb dX8_may_7 (by decide) ?_
  refine lv_ldc2 (own := RX8) (index := 244) (v := 12) hx hb hown (hts _ mw_735) dX8_may_8 ?_
  refine kS_i (As := [.long a.toInt64, .long 1, .long 12]) (rest := []) (cs := []) ⟨hx, hb, hml, hown, hts⟩ (c_M_within l D k a 1 12) (gS mw_294 mw_295 mw_5 mw_296) hd_yX8_within rfl rfl ⟨Nat.le_of_ble_eq_true rfl, Nat.le_of_ble_eq_true rfl⟩ hK (hP.sub (ws' := []) [] rfl) rfl hl.1 rfl (Nat.le_of_ble_eq_true rfl) dX8_may_11 ⟨Nat.le_of_ble_eq_true rfl, Nat.le_of_ble_eq_true rfl⟩ (fun r_1 hr_1 => ?_)
  by_cases hc_2 : 1 ≤ a.toInt ∧ a.toInt ≤ 12
  · obtain rfl : r_1 = 1 := hr_1.trans (if_pos hc_2)
    refine lv_if_ne (tgt := 20) hx hb dX8_may_14 (by decide) (fun _ => ?_) (fun c9 => absurd c9 (by decide))
    refine lv_aload_n hx hb dX8_may_20 rfl (lv_at hl 0 rfl) ?_
    refine lv_iconst (v := 0) hx hb dX8_may_21 (by decide) ?_
    refine lv_iload_n hx hb dX8_may_22 rfl (lv_at hl 1 rfl) ?_
    refine kV_ui (q0 := 0) (As := [.int 0, .int a]) (rest := []) (wc := [((mm 0), .inr (7, [.int 0, .ref (mm 1), .ref (mm 2), .ref (mm 3), .ref (mm 4), .ref (mm 5), .int 0, .int 0, .int 0, .int 0, .int 0, .int 0, .int 0, .int 0, .int 0, .int (-1), .int 0, .ref (mm 6), .int 0, .ref (mm 7), .ref (mm 8), .ref (mm 9), .int 0, .ref (mm 10), .ref (mm 11), .int 0, .int 0, .ref (mm 12), .ref (mm 13), .int 0, .ref (mm 14), .ref (mm 15), .ref (mm 16)])), ((mm 1), .inl (k 0, 1227, .inl f)), ((mm 2), .inl (k 0, 409, .inl (fun _ => 0))), ((mm 6), .inl (k 0, 2454, .inl (fun _ => 0))), ((mm 7), .inl (k 0, 10, .inl (fun _ => 0)))]) (wr := []) ⟨hx, hb, hml, hown, hts⟩ (c_M_laysDrips0 l D k _ 0 f (fun _ => 0) (fun _ => 0) a _ hf0 rfl KZ_0 (by omega)) (gV mw_740 mw_741 mw_742 mw_5 mw_743) hd_yX8_laysDrips rfl rfl ⟨Nat.le_of_ble_eq_true rfl, Nat.le_of_ble_eq_true rfl⟩ hK hP hD hS hA [0, 1, 2, 3, 4] [] rfl rfl (by decide) (by decide) (by decide) rfl rfl rfl rfl hl.1 rfl (Nat.le_of_ble_eq_true rfl) dX8_may_23 ⟨Nat.le_of_ble_eq_true rfl, Nat.le_of_ble_eq_true rfl⟩ (fun r_3 u_4 H locs hw hP hD hS => ?_)
    obtain ⟨v_5, v_6, v_7⟩ := u_4
    obtain ⟨hr_3, h_8, h_9, h_10⟩ := hw
    have h_8 : v_5 0 = 0 := h_8
    have h_9 : v_6 0 = 0 := h_9
    have h_10 : KZ v_7 := h_10
    have hP : va_P D vwCl [((mm 0), .inr (7, [.int 0, .ref (mm 1), .ref (mm 2), .ref (mm 3), .ref (mm 4), .ref (mm 5), .int 0, .int 0, .int 0, .int 0, .int 0, .int 0, .int 0, .int 0, .int 0, .int (-1), .int 0, .ref (mm 6), .int 0, .ref (mm 7), .ref (mm 8), .ref (mm 9), .int 0, .ref (mm 10), .ref (mm 11), .int 0, .int 0, .ref (mm 12), .ref (mm 13), .int 0, .ref (mm 14), .ref (mm 15), .ref (mm 16)])), ((mm 1), .inl (k 0, 1227, .inl v_5)), ((mm 2), .inl (k 0, 409, .inl v_6)), ((mm 6), .inl (k 0, 2454, .inl v_7)), ((mm 7), .inl (k 0, 10, .inl (fun _ => 0)))] H := hP
    have hD : va_D A [((mm 0), .inr (7, [.int 0, .ref (mm 1), .ref (mm 2), .ref (mm 3), .ref (mm 4), .ref (mm 5), .int 0, .int 0, .int 0, .int 0, .int 0, .int 0, .int 0, .int 0, .int 0, .int (-1), .int 0, .ref (mm 6), .int 0, .ref (mm 7), .ref (mm 8), .ref (mm 9), .int 0, .ref (mm 10), .ref (mm 11), .int 0, .int 0, .ref (mm 12), .ref (mm 13), .int 0, .ref (mm 14), .ref (mm 15), .ref (mm 16)])), ((mm 1), .inl (k 0, 1227, .inl v_5)), ((mm 2), .inl (k 0, 409, .inl v_6)), ((mm 6), .inl (k 0, 2454, .inl v_7)), ((mm 7), .inl (k 0, 10, .inl (fun _ => 0)))] := hD
    obtain rfl : r_3 = 0 := hr_3
    refine lv_istore_n (lv' := [(2, .int 0), (0, .ref (mm 0)), (1, .int a)]) hx hb dX8_may_26 rfl hl (by decide) rfl (fun ls hl => ?_)
    refine lv_iconst (v := 0) hx hb dX8_may_27 (by decide) ?_
    refine lv_istore_n (lv' := [(3, .int 0), (2, .int 0), (0, .ref (mm 0)), (1, .int a)]) hx hb dX8_may_28 rfl hl (by decide) rfl (fun ls hl => ?_)
    refine lv_iconst (v := 0) hx hb dX8_may_29 (by decide) ?_
    refine lv_istore (lv' := [(4, .int 0), (3, .int 0), (2, .int 0), (0, .ref (mm 0)), (1, .int a)]) hx hb dX8_may_30 hl (by decide) rfl (fun ls hl => ?_)
    refine lv_iload hx hb dX8_may_32 (lv_at hl 0 rfl) ?_
    refine lv_aload_n hx hb dX8_may_34 rfl (lv_at hl 3 rfl) ?_
    refine va_get (D := D) (ci := 7) (v := .ref (mm 1)) (C := RX8) (T := TX8) (N := 33) hx hb hts inlX8 hown hK hP 0 rfl rfl 1 (by decide) (hts _ mw_91) (fun _ h9 => h9) rfl dX8_may_35 ?_
    refine lv_iconst (v := 0) hx hb dX8_may_38 (by decide) ?_
    refine va_iald hx hb hK hP 1 0 rfl rfl (vp_in_c (by decide)) dX8_may_39 ?_
    refine lv_ni (v := 0) (h_8) ?_
    refine lv_icmp_ge (tgt := 82) hx hb dX8_may_40 (by decide) (fun _ => ?_) (fun c9 => absurd c9 (by decide))
    refine lv_iload_n hx hb dX8_may_82 rfl (lv_at hl 1 rfl) ?_
    have hP9 := hP.sub (ws' := []) [] rfl
    have hD9 := hD.sub (ws' := []) [] (by decide) rfl
    exact W.iret (v := 0) hx hb hr (fun t ht hW => ⟨⟨0, (), rfl, (by (repeat' split) <;> first | rfl | (exfalso; omega)), by rw [ht]; exact hP9, hD9⟩, hS.F ht⟩) hS.2.2 dX8_may_83
  have hr_1 := hr_1.trans (if_neg hc_2)
  obtain rfl : r_1 = 0 := hr_1
  refine lv_if_ne (tgt := 20) hx hb dX8_may_14 (by decide) (fun c9 => absurd c9 (by decide)) (fun _ => ?_)
  refine lv_bipush (v := (-3)) hx hb dX8_may_17 (by decide) ?_
  have hP9 := hP.sub (ws' := []) [] rfl
  have hD9 := hD.sub (ws' := []) [] (by decide) rfl
  exact W.iret (v := (-3)) hx hb hr (fun t ht hW => ⟨⟨(-3), (), rfl, (by (repeat' split) <;> first | rfl | (exfalso; omega)), by rw [ht]; exact hP9, hD9⟩, hS.F ht⟩) hS.2.2 dX8_may_19
set_option maxHeartbeats 4000000 in
set_option maxRecDepth 100000 in
theorem c_M_laziest (l : Launch) (D : va_G) (k : Nat → ClassId) (mm : Nat → Nat) (f : Nat → Int32) (a : Int32) (sz : Nat) (hf0 : f 0 = 0) : Met l yX8_laziest (Cond.code yX8_laziest cX8_laziest 5 (some .int) :: wsL_law) ({ frames := 3, cells := 0, slots := 0, locals := 180 } : Room) (va_Pc [.ref (mm 0), .int a] (pu D k sz [((mm 0), .inr (7, [.int 0, .ref (mm 1), .ref (mm 2), .ref (mm 3), .ref (mm 4), .ref (mm 5), .int 0, .int 0, .int 0, .int 0, .int 0, .int 0, .int 0, .int 0, .int 0, .int (-1), .int 0, .ref (mm 6), .int 0, .ref (mm 7), .ref (mm 8), .ref (mm 9), .int 0, .ref (mm 10), .ref (mm 11), .int 0, .int 0, .ref (mm 12), .ref (mm 13), .int 0, .ref (mm 14), .ref (mm 15), .ref (mm 16)])), ((mm 1), .inl (k 0, 1227, .inl f)), ((mm 2), .inl (k 0, 409, .inl (fun _ => 0))), ((mm 6), .inl (k 0, 2454, .inl (fun _ => 0))), ((mm 7), .inl (k 0, 10, .inl (fun _ => 0)))])) (va_Qi (fun rr (uu : Unit) => rr = if 1 ≤ a.toInt ∧ a.toInt ≤ 12 then 0 else (-3)) (qu D (va_A [((mm 0), .inr (7, [.int 0, .ref (mm 1), .ref (mm 2), .ref (mm 3), .ref (mm 4), .ref (mm 5), .int 0, .int 0, .int 0, .int 0, .int 0, .int 0, .int 0, .int 0, .int 0, .int (-1), .int 0, .ref (mm 6), .int 0, .ref (mm 7), .ref (mm 8), .ref (mm 9), .int 0, .ref (mm 10), .ref (mm 11), .int 0, .int 0, .ref (mm 12), .ref (mm 13), .int 0, .ref (mm 14), .ref (mm 15), .ref (mm 16)])), ((mm 1), .inl (k 0, 1227, .inl f)), ((mm 2), .inl (k 0, 409, .inl (fun _ => 0))), ((mm 6), .inl (k 0, 2454, .inl (fun _ => 0))), ((mm 7), .inl (k 0, 10, .inl (fun _ => 0)))] sz) (fun uu : Unit => [])) (va_A [((mm 0), .inr (7, [.int 0, .ref (mm 1), .ref (mm 2), .ref (mm 3), .ref (mm 4), .ref (mm 5), .int 0, .int 0, .int 0, .int 0, .int 0, .int 0, .int 0, .int 0, .int 0, .int (-1), .int 0, .ref (mm 6), .int 0, .ref (mm 7), .ref (mm 8), .ref (mm 9), .int 0, .ref (mm 10), .ref (mm 11), .int 0, .int 0, .ref (mm 12), .ref (mm 13), .int 0, .ref (mm 14), .ref (mm 15), .ref (mm 16)])), ((mm 1), .inl (k 0, 1227, .inl f)), ((mm 2), .inl (k 0, 409, .inl (fun _ => 0))), ((mm 6), .inl (k 0, 2454, .inl (fun _ => 0))), ((mm 7), .inl (k 0, 10, .inl (fun _ => 0)))] sz)) 0 0 (va_A [((mm 0), .inr (7, [.int 0, .ref (mm 1), .ref (mm 2), .ref (mm 3), .ref (mm 4), .ref (mm 5), .int 0, .int 0, .int 0, .int 0, .int 0, .int 0, .int 0, .int 0, .int 0, .int (-1), .int 0, .ref (mm 6), .int 0, .ref (mm 7), .ref (mm 8), .ref (mm 9), .int 0, .ref (mm 10), .ref (mm 11), .int 0, .int 0, .ref (mm 12), .ref (mm 13), .int 0, .ref (mm 14), .ref (mm 15), .ref (mm 16)])), ((mm 1), .inl (k 0, 1227, .inl f)), ((mm 2), .inl (k 0, 409, .inl (fun _ => 0))), ((mm 6), .inl (k 0, 2454, .inl (fun _ => 0))), ((mm 7), .inl (k 0, 10, .inl (fun _ => 0)))] sz) := by
  refine Met.ofW (cc := cX8_laziest) (maxL := 5) (ret := (some .int)) (by decide) rfl ?_
  intro p e s m args below meth c s₁ B hml hv
  obtain ⟨rfl, hsz, hP, hK, hD0⟩ := hv
  have hx := B.exec
  have hb := B.bytes
  have hr := B.returns
  have hts : ∀ w ∈ wsL_law, w.before _ s = true := fun w h => atoms_spec (ws := Cond.code yX8_laziest cX8_laziest 5 (some .int) :: wsL_law) B.pre w (List.mem_cons_of_mem _ h)
  have hown : s.vm.findClass RX8 = some m.cls := findClass_of_methodNamed B.named
  have hlocks := B.notSynchronized
  subst hsz
  have hD := hD0.self (sz := s.heap.size)
  generalize hAe : va_A [((mm 0), .inr (7, [.int 0, .ref (mm 1), .ref (mm 2), .ref (mm 3), .ref (mm 4), .ref (mm 5), .int 0, .int 0, .int 0, .int 0, .int 0, .int 0, .int 0, .int 0, .int 0, .int (-1), .int 0, .ref (mm 6), .int 0, .ref (mm 7), .ref (mm 8), .ref (mm 9), .int 0, .ref (mm 10), .ref (mm 11), .int 0, .int 0, .ref (mm 12), .ref (mm 13), .int 0, .ref (mm 14), .ref (mm 15), .ref (mm 16)])), ((mm 1), .inl (k 0, 1227, .inl f)), ((mm 2), .inl (k 0, 409, .inl (fun _ => 0))), ((mm 6), .inl (k 0, 2454, .inl (fun _ => 0))), ((mm 7), .inl (k 0, 10, .inl (fun _ => 0)))] s.heap.size = A at hD ⊢
  have hA : ∀ q : Nat, s.heap.size ≤ q → A q := fun q h => by rw [← hAe]; exact Or.inr h
  have hS : va_S A s.heap s.heap [] := va_S.rf
  have hP : va_P D vwCl [((mm 0), .inr (7, [.int 0, .ref (mm 1), .ref (mm 2), .ref (mm 3), .ref (mm 4), .ref (mm 5), .int 0, .int 0, .int 0, .int 0, .int 0, .int 0, .int 0, .int 0, .int 0, .int (-1), .int 0, .ref (mm 6), .int 0, .ref (mm 7), .ref (mm 8), .ref (mm 9), .int 0, .ref (mm 10), .ref (mm 11), .int 0, .int 0, .ref (mm 12), .ref (mm 13), .int 0, .ref (mm 14), .ref (mm 15), .ref (mm 16)])), ((mm 1), .inl (k 0, 1227, .inl f)), ((mm 2), .inl (k 0, 409, .inl (fun _ => 0))), ((mm 6), .inl (k 0, 2454, .inl (fun _ => 0))), ((mm 7), .inl (k 0, 10, .inl (fun _ => 0)))] s.heap := hP
  have hl := lv_entry ([.ref (mm 0), .int a]) (n := 5) (Nat.le_of_ble_eq_true rfl)
  rw [lg_entry_eq]
  generalize (lg_sl ([.ref (mm 0), .int a]) ++ List.replicate (5 - (lg_sl ([.ref (mm 0), .int a])).length) Slot.unset).toArray = ls at hl ⊢
  have hl : lv_has ls 5 [(0, .ref (mm 0)), (1, .int a)] := hl
  refine lv_aload_n hx hb dX8_laziest_0 rfl (lv_at hl 0 rfl) ?_
  refine lv_iconst (v := 0) hx hb dX8_laziest_1 (by decide) ?_
  refine va_put (D := D) (ci := 7) (v := .int 0) (ty := .int) (C := RX8) (T := TX8) (N := 33) hx hb hts inlX8 tyX8 tyX8_ok nmX8 hown hK hP hD hS 0 rfl rfl 0 (by decide) (hts _ mw_125) (fun _ h9 => h9) rfl (by decide +kernel) rfl rfl (Nat.le_of_ble_eq_true rfl) dX8_laziest_2 (fun H locs hP hD hS => ?_)
  have hP : va_P D vwCl [((mm 0), .inr (7, [.int 0, .ref (mm 1), .ref (mm 2), .ref (mm 3), .ref (mm 4), .ref (mm 5), .int 0, .int 0, .int 0, .int 0, .int 0, .int 0, .int 0, .int 0, .int 0, .int (-1), .int 0, .ref (mm 6), .int 0, .ref (mm 7), .ref (mm 8), .ref (mm 9), .int 0, .ref (mm 10), .ref (mm 11), .int 0, .int 0, .ref (mm 12), .ref (mm 13), .int 0, .ref (mm 14), .ref (mm 15), .ref (mm 16)])), ((mm 1), .inl (k 0, 1227, .inl f)), ((mm 2), .inl (k 0, 409, .inl (fun _ => 0))), ((mm 6), .inl (k 0, 2454, .inl (fun _ => 0))), ((mm 7), .inl (k 0, 10, .inl (fun _ => 0)))] H := hP
  have hD : va_D A [((mm 0), .inr (7, [.int 0, .ref (mm 1), .ref (mm 2), .ref (mm 3), .ref (mm 4), .ref (mm 5), .int 0, .int 0, .int 0, .int 0, .int 0, .int 0, .int 0, .int 0, .int 0, .int (-1), .int 0, .ref (mm 6), .int 0, .ref (mm 7), .ref (mm 8), .ref (mm 9), .int 0, .ref (mm 10), .ref (mm 11), .int 0, .int 0, .ref (mm 12), .ref (mm 13), .int 0, .ref (mm 14), .ref (mm 15), .ref (mm 16)])), ((mm 1), .inl (k 0, 1227, .inl f)), ((mm 2), .inl (k 0, 409, .inl (fun _ => 0))), ((mm 6), .inl (k 0, 2454, .inl (fun _ => 0))), ((mm 7), .inl (k 0, 10, .inl (fun _ => 0)))] := hD
  refine lv_iload_n hx hb dX8_laziest_5 rfl (lv_at hl 1 rfl) ?_
  refine lv_i2l (v := a.toInt64) hx hb dX8_laziest_6 rfl ?_
  refine lv_lconst (v := 1) hx hb dX8_laziest_7 (by decide) ?_
  refine lv_ldc2 (own := RX8) (index := 244) (v := 12) hx hb hown (hts _ mw_735) dX8_laziest_8 ?_
  refine kS_i (As := [.long a.toInt64, .long 1, .long 12]) (rest := []) (cs := []) ⟨hx, hb, hml, hown, hts⟩ (c_M_within l D k a 1 12) (gS mw_294 mw_295 mw_5 mw_296) hd_yX8_within rfl rfl ⟨Nat.le_of_ble_eq_true rfl, Nat.le_of_ble_eq_true rfl⟩ hK (hP.sub (ws' := []) [] rfl) rfl hl.1 rfl (Nat.le_of_ble_eq_true rfl) dX8_laziest_11 ⟨Nat.le_of_ble_eq_true rfl, Nat.le_of_ble_eq_true rfl⟩ (fun r_1 hr_1 => ?_)
  by_cases hc_2 : 1 ≤ a.toInt ∧ a.toInt ≤ 12
  · obtain rfl : r_1 = 1 := hr_1.trans (if_pos hc_2)
    refine lv_if_ne (tgt := 20) hx hb dX8_laziest_14 (by decide) (fun _ => ?_) (fun c9 => absurd c9 (by decide))
    refine lv_aload_n hx hb dX8_laziest_20 rfl (lv_at hl 0 rfl) ?_
    refine lv_iconst (v := 0) hx hb dX8_laziest_21 (by decide) ?_
    refine lv_iload_n hx hb dX8_laziest_22 rfl (lv_at hl 1 rfl) ?_
    refine kV_ui (q0 := 0) (As := [.int 0, .int a]) (rest := []) (wc := [((mm 0), .inr (7, [.int 0, .ref (mm 1), .ref (mm 2), .ref (mm 3), .ref (mm 4), .ref (mm 5), .int 0, .int 0, .int 0, .int 0, .int 0, .int 0, .int 0, .int 0, .int 0, .int (-1), .int 0, .ref (mm 6), .int 0, .ref (mm 7), .ref (mm 8), .ref (mm 9), .int 0, .ref (mm 10), .ref (mm 11), .int 0, .int 0, .ref (mm 12), .ref (mm 13), .int 0, .ref (mm 14), .ref (mm 15), .ref (mm 16)])), ((mm 1), .inl (k 0, 1227, .inl f)), ((mm 2), .inl (k 0, 409, .inl (fun _ => 0))), ((mm 6), .inl (k 0, 2454, .inl (fun _ => 0))), ((mm 7), .inl (k 0, 10, .inl (fun _ => 0)))]) (wr := []) ⟨hx, hb, hml, hown, hts⟩ (c_M_laysDrips0 l D k _ 0 f (fun _ => 0) (fun _ => 0) a _ hf0 rfl KZ_0 (by omega)) (gV mw_740 mw_741 mw_742 mw_5 mw_743) hd_yX8_laysDrips rfl rfl ⟨Nat.le_of_ble_eq_true rfl, Nat.le_of_ble_eq_true rfl⟩ hK hP hD hS hA [0, 1, 2, 3, 4] [] rfl rfl (by decide) (by decide) (by decide) rfl rfl rfl rfl hl.1 rfl (Nat.le_of_ble_eq_true rfl) dX8_laziest_23 ⟨Nat.le_of_ble_eq_true rfl, Nat.le_of_ble_eq_true rfl⟩ (fun r_3 u_4 H locs hw hP hD hS => ?_)
    obtain ⟨v_5, v_6, v_7⟩ := u_4
    obtain ⟨hr_3, h_8, h_9, h_10⟩ := hw
    have h_8 : v_5 0 = 0 := h_8
    have h_9 : v_6 0 = 0 := h_9
    have h_10 : KZ v_7 := h_10
    have hP : va_P D vwCl [((mm 0), .inr (7, [.int 0, .ref (mm 1), .ref (mm 2), .ref (mm 3), .ref (mm 4), .ref (mm 5), .int 0, .int 0, .int 0, .int 0, .int 0, .int 0, .int 0, .int 0, .int 0, .int (-1), .int 0, .ref (mm 6), .int 0, .ref (mm 7), .ref (mm 8), .ref (mm 9), .int 0, .ref (mm 10), .ref (mm 11), .int 0, .int 0, .ref (mm 12), .ref (mm 13), .int 0, .ref (mm 14), .ref (mm 15), .ref (mm 16)])), ((mm 1), .inl (k 0, 1227, .inl v_5)), ((mm 2), .inl (k 0, 409, .inl v_6)), ((mm 6), .inl (k 0, 2454, .inl v_7)), ((mm 7), .inl (k 0, 10, .inl (fun _ => 0)))] H := hP
    have hD : va_D A [((mm 0), .inr (7, [.int 0, .ref (mm 1), .ref (mm 2), .ref (mm 3), .ref (mm 4), .ref (mm 5), .int 0, .int 0, .int 0, .int 0, .int 0, .int 0, .int 0, .int 0, .int 0, .int (-1), .int 0, .ref (mm 6), .int 0, .ref (mm 7), .ref (mm 8), .ref (mm 9), .int 0, .ref (mm 10), .ref (mm 11), .int 0, .int 0, .ref (mm 12), .ref (mm 13), .int 0, .ref (mm 14), .ref (mm 15), .ref (mm 16)])), ((mm 1), .inl (k 0, 1227, .inl v_5)), ((mm 2), .inl (k 0, 409, .inl v_6)), ((mm 6), .inl (k 0, 2454, .inl v_7)), ((mm 7), .inl (k 0, 10, .inl (fun _ => 0)))] := hD
    obtain rfl : r_3 = 0 := hr_3
    refine lv_istore_n (lv' := [(2, .int 0), (0, .ref (mm 0)), (1, .int a)]) hx hb dX8_laziest_26 rfl hl (by decide) rfl (fun ls hl => ?_)
    refine lv_iconst (v := 0) hx hb dX8_laziest_27 (by decide) ?_
    refine lv_istore_n (lv' := [(3, .int 0), (2, .int 0), (0, .ref (mm 0)), (1, .int a)]) hx hb dX8_laziest_28 rfl hl (by decide) rfl (fun ls hl => ?_)
    refine lv_iconst (v := 1) hx hb dX8_laziest_29 (by decide) ?_
    refine lv_istore (lv' := [(4, .int 1), (3, .int 0), (2, .int 0), (0, .ref (mm 0)), (1, .int a)]) hx hb dX8_laziest_30 hl (by decide) rfl (fun ls hl => ?_)
    refine lv_iload hx hb dX8_laziest_32 (lv_at hl 0 rfl) ?_
    refine lv_iconst (v := 1) hx hb dX8_laziest_34 (by decide) ?_
    refine lv_aload_n hx hb dX8_laziest_35 rfl (lv_at hl 3 rfl) ?_
    refine va_get (D := D) (ci := 7) (v := .ref (mm 1)) (C := RX8) (T := TX8) (N := 33) hx hb hts inlX8 hown hK hP 0 rfl rfl 1 (by decide) (hts _ mw_91) (fun _ h9 => h9) rfl dX8_laziest_36 ?_
    refine lv_iconst (v := 0) hx hb dX8_laziest_39 (by decide) ?_
    refine va_iald hx hb hK hP 1 0 rfl rfl (vp_in_c (by decide)) dX8_laziest_40 ?_
    refine lv_ni (v := 0) (h_8) ?_
    refine lv_ishl hx hb dX8_laziest_41 ?_
    refine lv_ni (v := 1) (by decide) ?_
    refine lv_icmp_ge (tgt := 87) hx hb dX8_laziest_42 (by decide) (fun _ => ?_) (fun c9 => absurd c9 (by decide))
    refine lv_iload_n hx hb dX8_laziest_87 rfl (lv_at hl 1 rfl) ?_
    have hP9 := hP.sub (ws' := []) [] rfl
    have hD9 := hD.sub (ws' := []) [] (by decide) rfl
    exact W.iret (v := 0) hx hb hr (fun t ht hW => ⟨⟨0, (), rfl, (by (repeat' split) <;> first | rfl | (exfalso; omega)), by rw [ht]; exact hP9, hD9⟩, hS.F ht⟩) hS.2.2 dX8_laziest_88
  have hr_1 := hr_1.trans (if_neg hc_2)
  obtain rfl : r_1 = 0 := hr_1
  refine lv_if_ne (tgt := 20) hx hb dX8_laziest_14 (by decide) (fun c9 => absurd c9 (by decide)) (fun _ => ?_)
  refine lv_bipush (v := (-3)) hx hb dX8_laziest_17 (by decide) ?_
  have hP9 := hP.sub (ws' := []) [] rfl
  have hD9 := hD.sub (ws' := []) [] (by decide) rfl
  exact W.iret (v := (-3)) hx hb hr (fun t ht hW => ⟨⟨(-3), (), rfl, (by (repeat' split) <;> first | rfl | (exfalso; omega)), by rw [ht]; exact hP9, hD9⟩, hS.F ht⟩) hS.2.2 dX8_laziest_19
set_option maxHeartbeats 4000000 in
set_option maxRecDepth 100000 in
theorem c_M_dry (l : Launch) (D : va_G) (k : Nat → ClassId) (mm : Nat → Nat) (f : Nat → Int32) (a : Int32) (x : Int32) (sz : Nat) (hf0 : f 0 = 0) : Met l yX8_dry (Cond.code yX8_dry cX8_dry 3 (some .int) :: wsL_law) ({ frames := 9, cells := 0, slots := 0, locals := 540 } : Room) (va_Pc [.ref (mm 0), .int a, .int x] (pu D k sz [((mm 0), .inr (7, [.int 0, .ref (mm 1), .ref (mm 2), .ref (mm 3), .ref (mm 4), .ref (mm 5), .int 0, .int 0, .int 0, .int 0, .int 0, .int 0, .int 0, .int 0, .int 0, .int (-1), .int 0, .ref (mm 6), .int 0, .ref (mm 7), .ref (mm 8), .ref (mm 9), .int 0, .ref (mm 10), .ref (mm 11), .int 0, .int 0, .ref (mm 12), .ref (mm 13), .int 0, .ref (mm 14), .ref (mm 15), .ref (mm 16)])), ((mm 1), .inl (k 0, 1227, .inl f)), ((mm 2), .inl (k 0, 409, .inl (fun _ => 0))), ((mm 6), .inl (k 0, 2454, .inl (fun _ => 0))), ((mm 8), .inl (k 0, 4, .inl (fun _ => 0))), ((mm 9), .inl (k 0, 4, .inl (fun _ => 0)))])) (va_Qi (fun rr (uu : Unit) => rr = if ¬ (x.toInt = 0 ∨ (10 ≤ x.toInt ∧ x.toInt ≤ 13)) then (-2) else if ¬ (1 ≤ a.toInt ∧ a.toInt ≤ 4) then (-3) else if x.toInt = 0 ∨ x.toInt - 10 < a.toInt then 0 else (-1)) (qu D (va_A [((mm 0), .inr (7, [.int 0, .ref (mm 1), .ref (mm 2), .ref (mm 3), .ref (mm 4), .ref (mm 5), .int 0, .int 0, .int 0, .int 0, .int 0, .int 0, .int 0, .int 0, .int 0, .int (-1), .int 0, .ref (mm 6), .int 0, .ref (mm 7), .ref (mm 8), .ref (mm 9), .int 0, .ref (mm 10), .ref (mm 11), .int 0, .int 0, .ref (mm 12), .ref (mm 13), .int 0, .ref (mm 14), .ref (mm 15), .ref (mm 16)])), ((mm 1), .inl (k 0, 1227, .inl f)), ((mm 2), .inl (k 0, 409, .inl (fun _ => 0))), ((mm 6), .inl (k 0, 2454, .inl (fun _ => 0))), ((mm 8), .inl (k 0, 4, .inl (fun _ => 0))), ((mm 9), .inl (k 0, 4, .inl (fun _ => 0)))] sz) (fun uu : Unit => [])) (va_A [((mm 0), .inr (7, [.int 0, .ref (mm 1), .ref (mm 2), .ref (mm 3), .ref (mm 4), .ref (mm 5), .int 0, .int 0, .int 0, .int 0, .int 0, .int 0, .int 0, .int 0, .int 0, .int (-1), .int 0, .ref (mm 6), .int 0, .ref (mm 7), .ref (mm 8), .ref (mm 9), .int 0, .ref (mm 10), .ref (mm 11), .int 0, .int 0, .ref (mm 12), .ref (mm 13), .int 0, .ref (mm 14), .ref (mm 15), .ref (mm 16)])), ((mm 1), .inl (k 0, 1227, .inl f)), ((mm 2), .inl (k 0, 409, .inl (fun _ => 0))), ((mm 6), .inl (k 0, 2454, .inl (fun _ => 0))), ((mm 8), .inl (k 0, 4, .inl (fun _ => 0))), ((mm 9), .inl (k 0, 4, .inl (fun _ => 0)))] sz)) 0 0 (va_A [((mm 0), .inr (7, [.int 0, .ref (mm 1), .ref (mm 2), .ref (mm 3), .ref (mm 4), .ref (mm 5), .int 0, .int 0, .int 0, .int 0, .int 0, .int 0, .int 0, .int 0, .int 0, .int (-1), .int 0, .ref (mm 6), .int 0, .ref (mm 7), .ref (mm 8), .ref (mm 9), .int 0, .ref (mm 10), .ref (mm 11), .int 0, .int 0, .ref (mm 12), .ref (mm 13), .int 0, .ref (mm 14), .ref (mm 15), .ref (mm 16)])), ((mm 1), .inl (k 0, 1227, .inl f)), ((mm 2), .inl (k 0, 409, .inl (fun _ => 0))), ((mm 6), .inl (k 0, 2454, .inl (fun _ => 0))), ((mm 8), .inl (k 0, 4, .inl (fun _ => 0))), ((mm 9), .inl (k 0, 4, .inl (fun _ => 0)))] sz) := by
  refine Met.ofW (cc := cX8_dry) (maxL := 3) (ret := (some .int)) (by decide) rfl ?_
  intro p e s m args below meth c s₁ B hml hv
  obtain ⟨rfl, hsz, hP, hK, hD0⟩ := hv
  have hx := B.exec
  have hb := B.bytes
  have hr := B.returns
  have hts : ∀ w ∈ wsL_law, w.before _ s = true := fun w h => atoms_spec (ws := Cond.code yX8_dry cX8_dry 3 (some .int) :: wsL_law) B.pre w (List.mem_cons_of_mem _ h)
  have hown : s.vm.findClass RX8 = some m.cls := findClass_of_methodNamed B.named
  have hlocks := B.notSynchronized
  subst hsz
  have hD := hD0.self (sz := s.heap.size)
  generalize hAe : va_A [((mm 0), .inr (7, [.int 0, .ref (mm 1), .ref (mm 2), .ref (mm 3), .ref (mm 4), .ref (mm 5), .int 0, .int 0, .int 0, .int 0, .int 0, .int 0, .int 0, .int 0, .int 0, .int (-1), .int 0, .ref (mm 6), .int 0, .ref (mm 7), .ref (mm 8), .ref (mm 9), .int 0, .ref (mm 10), .ref (mm 11), .int 0, .int 0, .ref (mm 12), .ref (mm 13), .int 0, .ref (mm 14), .ref (mm 15), .ref (mm 16)])), ((mm 1), .inl (k 0, 1227, .inl f)), ((mm 2), .inl (k 0, 409, .inl (fun _ => 0))), ((mm 6), .inl (k 0, 2454, .inl (fun _ => 0))), ((mm 8), .inl (k 0, 4, .inl (fun _ => 0))), ((mm 9), .inl (k 0, 4, .inl (fun _ => 0)))] s.heap.size = A at hD ⊢
  have hA : ∀ q : Nat, s.heap.size ≤ q → A q := fun q h => by rw [← hAe]; exact Or.inr h
  have hS : va_S A s.heap s.heap [] := va_S.rf
  have hP : va_P D vwCl [((mm 0), .inr (7, [.int 0, .ref (mm 1), .ref (mm 2), .ref (mm 3), .ref (mm 4), .ref (mm 5), .int 0, .int 0, .int 0, .int 0, .int 0, .int 0, .int 0, .int 0, .int 0, .int (-1), .int 0, .ref (mm 6), .int 0, .ref (mm 7), .ref (mm 8), .ref (mm 9), .int 0, .ref (mm 10), .ref (mm 11), .int 0, .int 0, .ref (mm 12), .ref (mm 13), .int 0, .ref (mm 14), .ref (mm 15), .ref (mm 16)])), ((mm 1), .inl (k 0, 1227, .inl f)), ((mm 2), .inl (k 0, 409, .inl (fun _ => 0))), ((mm 6), .inl (k 0, 2454, .inl (fun _ => 0))), ((mm 8), .inl (k 0, 4, .inl (fun _ => 0))), ((mm 9), .inl (k 0, 4, .inl (fun _ => 0)))] s.heap := hP
  have hl := lv_entry ([.ref (mm 0), .int a, .int x]) (n := 3) (Nat.le_of_ble_eq_true rfl)
  rw [lg_entry_eq]
  generalize (lg_sl ([.ref (mm 0), .int a, .int x]) ++ List.replicate (3 - (lg_sl ([.ref (mm 0), .int a, .int x])).length) Slot.unset).toArray = ls at hl ⊢
  have hl : lv_has ls 3 [(0, .ref (mm 0)), (1, .int a), (2, .int x)] := hl
  refine lv_aload_n hx hb dX8_dry_0 rfl (lv_at hl 0 rfl) ?_
  refine lv_iconst (v := 0) hx hb dX8_dry_1 (by decide) ?_
  refine va_put (D := D) (ci := 7) (v := .int 0) (ty := .int) (C := RX8) (T := TX8) (N := 33) hx hb hts inlX8 tyX8 tyX8_ok nmX8 hown hK hP hD hS 0 rfl rfl 0 (by decide) (hts _ mw_125) (fun _ h9 => h9) rfl (by decide +kernel) rfl rfl (Nat.le_of_ble_eq_true rfl) dX8_dry_2 (fun H locs hP hD hS => ?_)
  have hP : va_P D vwCl [((mm 0), .inr (7, [.int 0, .ref (mm 1), .ref (mm 2), .ref (mm 3), .ref (mm 4), .ref (mm 5), .int 0, .int 0, .int 0, .int 0, .int 0, .int 0, .int 0, .int 0, .int 0, .int (-1), .int 0, .ref (mm 6), .int 0, .ref (mm 7), .ref (mm 8), .ref (mm 9), .int 0, .ref (mm 10), .ref (mm 11), .int 0, .int 0, .ref (mm 12), .ref (mm 13), .int 0, .ref (mm 14), .ref (mm 15), .ref (mm 16)])), ((mm 1), .inl (k 0, 1227, .inl f)), ((mm 2), .inl (k 0, 409, .inl (fun _ => 0))), ((mm 6), .inl (k 0, 2454, .inl (fun _ => 0))), ((mm 8), .inl (k 0, 4, .inl (fun _ => 0))), ((mm 9), .inl (k 0, 4, .inl (fun _ => 0)))] H := hP
  have hD : va_D A [((mm 0), .inr (7, [.int 0, .ref (mm 1), .ref (mm 2), .ref (mm 3), .ref (mm 4), .ref (mm 5), .int 0, .int 0, .int 0, .int 0, .int 0, .int 0, .int 0, .int 0, .int 0, .int (-1), .int 0, .ref (mm 6), .int 0, .ref (mm 7), .ref (mm 8), .ref (mm 9), .int 0, .ref (mm 10), .ref (mm 11), .int 0, .int 0, .ref (mm 12), .ref (mm 13), .int 0, .ref (mm 14), .ref (mm 15), .ref (mm 16)])), ((mm 1), .inl (k 0, 1227, .inl f)), ((mm 2), .inl (k 0, 409, .inl (fun _ => 0))), ((mm 6), .inl (k 0, 2454, .inl (fun _ => 0))), ((mm 8), .inl (k 0, 4, .inl (fun _ => 0))), ((mm 9), .inl (k 0, 4, .inl (fun _ => 0)))] := hD
  refine lv_iload_n hx hb dX8_dry_5 rfl (lv_at hl 2 rfl) ?_
  refine lv_if_eq (tgt := 26) hx hb dX8_dry_6 (by decide) (fun c_1 => ?_) (fun c_1 => ?_)
  · have c_1 : x.toInt = 0 := ti_eq c_1
    have qc_1 : x = 0 := ti_of (show x.toInt = 0 from by omega)
    refine lv_iload_n hx hb dX8_dry_26 rfl (lv_at hl 1 rfl) ?_
    refine lv_i2l (v := a.toInt64) hx hb dX8_dry_27 rfl ?_
    refine lv_lconst (v := 1) hx hb dX8_dry_28 (by decide) ?_
    refine lv_ldc2 (own := RX8) (index := 262) (v := 4) hx hb hown (hts _ mw_804) dX8_dry_29 ?_
    refine kS_i (As := [.long a.toInt64, .long 1, .long 4]) (rest := []) (cs := []) ⟨hx, hb, hml, hown, hts⟩ (c_M_within l D k a 1 4) (gS mw_294 mw_295 mw_5 mw_296) hd_yX8_within rfl rfl ⟨Nat.le_of_ble_eq_true rfl, Nat.le_of_ble_eq_true rfl⟩ hK (hP.sub (ws' := []) [] rfl) rfl hl.1 rfl (Nat.le_of_ble_eq_true rfl) dX8_dry_32 ⟨Nat.le_of_ble_eq_true rfl, Nat.le_of_ble_eq_true rfl⟩ (fun r_2 hr_2 => ?_)
    by_cases hc_3 : 1 ≤ a.toInt ∧ a.toInt ≤ 4
    · obtain rfl : r_2 = 1 := hr_2.trans (if_pos hc_3)
      refine lv_if_ne (tgt := 41) hx hb dX8_dry_35 (by decide) (fun _ => ?_) (fun c9 => absurd c9 (by decide))
      refine lv_aload_n hx hb dX8_dry_41 rfl (lv_at hl 0 rfl) ?_
      refine va_get (D := D) (ci := 7) (v := .ref (mm 1)) (C := RX8) (T := TX8) (N := 33) hx hb hts inlX8 hown hK hP 0 rfl rfl 1 (by decide) (hts _ mw_91) (fun _ h9 => h9) rfl dX8_dry_42 ?_
      refine lv_iconst (v := 0) hx hb dX8_dry_45 (by decide) ?_
      refine va_iald hx hb hK hP 1 0 rfl rfl (vp_in_c (by decide)) dX8_dry_46 ?_
      refine lv_ni (v := 0) (hf0) ?_
      refine lv_iconst (v := 4) hx hb dX8_dry_47 (by decide) ?_
      refine lv_icmp_le (tgt := 54) hx hb dX8_dry_48 (by decide) (fun _ => ?_) (fun c9 => absurd c9 (by decide))
      rcases (show a.toInt = 1 ∨ a.toInt = 2 ∨ a.toInt = 3 ∨ a.toInt = 4 from by omega) with c_4 | c_5 | c_6 | c_7
      · have qc_4 : a = 1 := ti_of (show a.toInt = 1 from c_4)
        refine lv_aload_n hx hb dX8_dry_54 rfl (lv_at hl 0 rfl) ?_
        refine lv_iconst (v := (-1)) hx hb dX8_dry_55 (by decide) ?_
        refine va_put (D := D) (ci := 7) (v := .int (-1)) (ty := .int) (C := RX8) (T := TX8) (N := 33) hx hb hts inlX8 tyX8 tyX8_ok nmX8 hown hK hP hD hS 0 rfl rfl 22 (by decide) (hts _ mw_805) (fun _ h9 => h9) rfl (by decide +kernel) rfl rfl (Nat.le_of_ble_eq_true rfl) dX8_dry_56 (fun H locs hP hD hS => ?_)
        have hP : va_P D vwCl [((mm 0), .inr (7, [.int 0, .ref (mm 1), .ref (mm 2), .ref (mm 3), .ref (mm 4), .ref (mm 5), .int 0, .int 0, .int 0, .int 0, .int 0, .int 0, .int 0, .int 0, .int 0, .int (-1), .int 0, .ref (mm 6), .int 0, .ref (mm 7), .ref (mm 8), .ref (mm 9), .int (-1), .ref (mm 10), .ref (mm 11), .int 0, .int 0, .ref (mm 12), .ref (mm 13), .int 0, .ref (mm 14), .ref (mm 15), .ref (mm 16)])), ((mm 1), .inl (k 0, 1227, .inl f)), ((mm 2), .inl (k 0, 409, .inl (fun _ => 0))), ((mm 6), .inl (k 0, 2454, .inl (fun _ => 0))), ((mm 8), .inl (k 0, 4, .inl (fun _ => 0))), ((mm 9), .inl (k 0, 4, .inl (fun _ => 0)))] H := hP
        have hD : va_D A [((mm 0), .inr (7, [.int 0, .ref (mm 1), .ref (mm 2), .ref (mm 3), .ref (mm 4), .ref (mm 5), .int 0, .int 0, .int 0, .int 0, .int 0, .int 0, .int 0, .int 0, .int 0, .int (-1), .int 0, .ref (mm 6), .int 0, .ref (mm 7), .ref (mm 8), .ref (mm 9), .int (-1), .ref (mm 10), .ref (mm 11), .int 0, .int 0, .ref (mm 12), .ref (mm 13), .int 0, .ref (mm 14), .ref (mm 15), .ref (mm 16)])), ((mm 1), .inl (k 0, 1227, .inl f)), ((mm 2), .inl (k 0, 409, .inl (fun _ => 0))), ((mm 6), .inl (k 0, 2454, .inl (fun _ => 0))), ((mm 8), .inl (k 0, 4, .inl (fun _ => 0))), ((mm 9), .inl (k 0, 4, .inl (fun _ => 0)))] := hD
        refine lv_aload_n hx hb dX8_dry_59 rfl (lv_at hl 0 rfl) ?_
        refine lv_iconst (v := 0) hx hb dX8_dry_60 (by decide) ?_
        refine lv_iload_n hx hb dX8_dry_61 rfl (lv_at hl 1 rfl) ?_
        refine lv_ni (v := 1) (qc_4) ?_
        refine lv_iconst (v := 0) hx hb dX8_dry_62 (by decide) ?_
        refine kV_uv (q0 := 0) (As := [.int 0, .int 1, .int 0]) (rest := []) (wc := [((mm 0), .inr (7, [.int 0, .ref (mm 1), .ref (mm 2), .ref (mm 3), .ref (mm 4), .ref (mm 5), .int 0, .int 0, .int 0, .int 0, .int 0, .int 0, .int 0, .int 0, .int 0, .int (-1), .int 0, .ref (mm 6), .int 0, .ref (mm 7), .ref (mm 8), .ref (mm 9), .int (-1), .ref (mm 10), .ref (mm 11), .int 0, .int 0, .ref (mm 12), .ref (mm 13), .int 0, .ref (mm 14), .ref (mm 15), .ref (mm 16)])), ((mm 1), .inl (k 0, 1227, .inl f)), ((mm 2), .inl (k 0, 409, .inl (fun _ => 0))), ((mm 6), .inl (k 0, 2454, .inl (fun _ => 0))), ((mm 8), .inl (k 0, 4, .inl (fun _ => 0))), ((mm 9), .inl (k 0, 4, .inl (fun _ => 0)))]) (wr := []) ⟨hx, hb, hml, hown, hts⟩ (c_M_keepsDry1_0 l D k _ f (fun _ => 0) (fun _ => 0) _ hf0 rfl KZ_0) (gV mw_806 mw_807 mw_808 mw_5 mw_809) hd_yX8_keepsDry rfl rfl ⟨Nat.le_of_ble_eq_true rfl, Nat.le_of_ble_eq_true rfl⟩ hK hP hD hS hA [0, 1, 2, 3, 4, 5] [] rfl rfl (by decide) (by decide) (by decide) rfl rfl rfl rfl hl.1 rfl (Nat.le_of_ble_eq_true rfl) dX8_dry_63 ⟨Nat.le_of_ble_eq_true rfl, Nat.le_of_ble_eq_true rfl⟩ (fun u_9 H locs hw hP hD hS => ?_)
        obtain ⟨v_10, v_11, v_12⟩ := u_9
        obtain ⟨h_13, h_14, h_15⟩ := hw
        have h_13 : v_10 0 = 0 := h_13
        have h_14 : v_11 0 = 0 := h_14
        have h_15 : KZ v_12 := h_15
        have hP : va_P D vwCl [((mm 0), .inr (7, [.int 0, .ref (mm 1), .ref (mm 2), .ref (mm 3), .ref (mm 4), .ref (mm 5), .int 0, .int 0, .int 0, .int 0, .int 0, .int 0, .int 0, .int 0, .int 0, .int (-1), .int 0, .ref (mm 6), .int 0, .ref (mm 7), .ref (mm 8), .ref (mm 9), .int 0, .ref (mm 10), .ref (mm 11), .int 0, .int 0, .ref (mm 12), .ref (mm 13), .int 0, .ref (mm 14), .ref (mm 15), .ref (mm 16)])), ((mm 1), .inl (k 0, 1227, .inl v_10)), ((mm 2), .inl (k 0, 409, .inl v_11)), ((mm 6), .inl (k 0, 2454, .inl v_12)), ((mm 8), .inl (k 0, 4, .inl (fun _ => 0))), ((mm 9), .inl (k 0, 4, .inl (fun _ => 0)))] H := hP
        have hD : va_D A [((mm 0), .inr (7, [.int 0, .ref (mm 1), .ref (mm 2), .ref (mm 3), .ref (mm 4), .ref (mm 5), .int 0, .int 0, .int 0, .int 0, .int 0, .int 0, .int 0, .int 0, .int 0, .int (-1), .int 0, .ref (mm 6), .int 0, .ref (mm 7), .ref (mm 8), .ref (mm 9), .int 0, .ref (mm 10), .ref (mm 11), .int 0, .int 0, .ref (mm 12), .ref (mm 13), .int 0, .ref (mm 14), .ref (mm 15), .ref (mm 16)])), ((mm 1), .inl (k 0, 1227, .inl v_10)), ((mm 2), .inl (k 0, 409, .inl v_11)), ((mm 6), .inl (k 0, 2454, .inl v_12)), ((mm 8), .inl (k 0, 4, .inl (fun _ => 0))), ((mm 9), .inl (k 0, 4, .inl (fun _ => 0)))] := hD
        refine lv_aload_n hx hb dX8_dry_66 rfl (lv_at hl 0 rfl) ?_
        refine va_get (D := D) (ci := 7) (v := .int 0) (C := RX8) (T := TX8) (N := 33) hx hb hts inlX8 hown hK hP 0 rfl rfl 22 (by decide) (hts _ mw_805) (fun _ h9 => h9) rfl dX8_dry_67 ?_
        refine lv_iconst (v := (-1)) hx hb dX8_dry_70 (by decide) ?_
        refine lv_icmp_eq (tgt := 78) hx hb dX8_dry_71 (by decide) (fun c9 => absurd c9 (by decide)) (fun _ => ?_)
        refine lv_iload_n hx hb dX8_dry_74 rfl (lv_at hl 2 rfl) ?_
        refine lv_ni (v := 0) (qc_1) ?_
        refine lv_if_ne (tgt := 83) hx hb dX8_dry_75 (by decide) (fun c9 => absurd c9 (by decide)) (fun _ => ?_)
        refine lv_aload_n hx hb dX8_dry_78 rfl (lv_at hl 0 rfl) ?_
        refine va_get (D := D) (ci := 7) (v := .int 0) (C := RX8) (T := TX8) (N := 33) hx hb hts inlX8 hown hK hP 0 rfl rfl 22 (by decide) (hts _ mw_805) (fun _ h9 => h9) rfl dX8_dry_79 ?_
        have hP9 := hP.sub (ws' := []) [] rfl
        have hD9 := hD.sub (ws' := []) [] (by decide) rfl
        exact W.iret (v := 0) hx hb hr (fun t ht hW => ⟨⟨0, (), rfl, (by (repeat' split) <;> first | rfl | (exfalso; omega)), by rw [ht]; exact hP9, hD9⟩, hS.F ht⟩) hS.2.2 dX8_dry_82
      · have qc_5 : a = 2 := ti_of (show a.toInt = 2 from c_5)
        refine lv_aload_n hx hb dX8_dry_54 rfl (lv_at hl 0 rfl) ?_
        refine lv_iconst (v := (-1)) hx hb dX8_dry_55 (by decide) ?_
        refine va_put (D := D) (ci := 7) (v := .int (-1)) (ty := .int) (C := RX8) (T := TX8) (N := 33) hx hb hts inlX8 tyX8 tyX8_ok nmX8 hown hK hP hD hS 0 rfl rfl 22 (by decide) (hts _ mw_805) (fun _ h9 => h9) rfl (by decide +kernel) rfl rfl (Nat.le_of_ble_eq_true rfl) dX8_dry_56 (fun H locs hP hD hS => ?_)
        have hP : va_P D vwCl [((mm 0), .inr (7, [.int 0, .ref (mm 1), .ref (mm 2), .ref (mm 3), .ref (mm 4), .ref (mm 5), .int 0, .int 0, .int 0, .int 0, .int 0, .int 0, .int 0, .int 0, .int 0, .int (-1), .int 0, .ref (mm 6), .int 0, .ref (mm 7), .ref (mm 8), .ref (mm 9), .int (-1), .ref (mm 10), .ref (mm 11), .int 0, .int 0, .ref (mm 12), .ref (mm 13), .int 0, .ref (mm 14), .ref (mm 15), .ref (mm 16)])), ((mm 1), .inl (k 0, 1227, .inl f)), ((mm 2), .inl (k 0, 409, .inl (fun _ => 0))), ((mm 6), .inl (k 0, 2454, .inl (fun _ => 0))), ((mm 8), .inl (k 0, 4, .inl (fun _ => 0))), ((mm 9), .inl (k 0, 4, .inl (fun _ => 0)))] H := hP
        have hD : va_D A [((mm 0), .inr (7, [.int 0, .ref (mm 1), .ref (mm 2), .ref (mm 3), .ref (mm 4), .ref (mm 5), .int 0, .int 0, .int 0, .int 0, .int 0, .int 0, .int 0, .int 0, .int 0, .int (-1), .int 0, .ref (mm 6), .int 0, .ref (mm 7), .ref (mm 8), .ref (mm 9), .int (-1), .ref (mm 10), .ref (mm 11), .int 0, .int 0, .ref (mm 12), .ref (mm 13), .int 0, .ref (mm 14), .ref (mm 15), .ref (mm 16)])), ((mm 1), .inl (k 0, 1227, .inl f)), ((mm 2), .inl (k 0, 409, .inl (fun _ => 0))), ((mm 6), .inl (k 0, 2454, .inl (fun _ => 0))), ((mm 8), .inl (k 0, 4, .inl (fun _ => 0))), ((mm 9), .inl (k 0, 4, .inl (fun _ => 0)))] := hD
        refine lv_aload_n hx hb dX8_dry_59 rfl (lv_at hl 0 rfl) ?_
        refine lv_iconst (v := 0) hx hb dX8_dry_60 (by decide) ?_
        refine lv_iload_n hx hb dX8_dry_61 rfl (lv_at hl 1 rfl) ?_
        refine lv_ni (v := 2) (qc_5) ?_
        refine lv_iconst (v := 0) hx hb dX8_dry_62 (by decide) ?_
        refine kV_uv (q0 := 0) (As := [.int 0, .int 2, .int 0]) (rest := []) (wc := [((mm 0), .inr (7, [.int 0, .ref (mm 1), .ref (mm 2), .ref (mm 3), .ref (mm 4), .ref (mm 5), .int 0, .int 0, .int 0, .int 0, .int 0, .int 0, .int 0, .int 0, .int 0, .int (-1), .int 0, .ref (mm 6), .int 0, .ref (mm 7), .ref (mm 8), .ref (mm 9), .int (-1), .ref (mm 10), .ref (mm 11), .int 0, .int 0, .ref (mm 12), .ref (mm 13), .int 0, .ref (mm 14), .ref (mm 15), .ref (mm 16)])), ((mm 1), .inl (k 0, 1227, .inl f)), ((mm 2), .inl (k 0, 409, .inl (fun _ => 0))), ((mm 6), .inl (k 0, 2454, .inl (fun _ => 0))), ((mm 8), .inl (k 0, 4, .inl (fun _ => 0))), ((mm 9), .inl (k 0, 4, .inl (fun _ => 0)))]) (wr := []) ⟨hx, hb, hml, hown, hts⟩ (c_M_keepsDry2_0 l D k _ f (fun _ => 0) (fun _ => 0) _ hf0 rfl KZ_0) (gV mw_806 mw_807 mw_808 mw_5 mw_809) hd_yX8_keepsDry rfl rfl ⟨Nat.le_of_ble_eq_true rfl, Nat.le_of_ble_eq_true rfl⟩ hK hP hD hS hA [0, 1, 2, 3, 4, 5] [] rfl rfl (by decide) (by decide) (by decide) rfl rfl rfl rfl hl.1 rfl (Nat.le_of_ble_eq_true rfl) dX8_dry_63 ⟨Nat.le_of_ble_eq_true rfl, Nat.le_of_ble_eq_true rfl⟩ (fun u_17 H locs hw hP hD hS => ?_)
        obtain ⟨v_18, v_19, v_20⟩ := u_17
        obtain ⟨h_21, h_22, h_23⟩ := hw
        have h_21 : v_18 0 = 0 := h_21
        have h_22 : v_19 0 = 0 := h_22
        have h_23 : KZ v_20 := h_23
        have hP : va_P D vwCl [((mm 0), .inr (7, [.int 0, .ref (mm 1), .ref (mm 2), .ref (mm 3), .ref (mm 4), .ref (mm 5), .int 0, .int 0, .int 0, .int 0, .int 0, .int 0, .int 0, .int 0, .int 0, .int (-1), .int 0, .ref (mm 6), .int 0, .ref (mm 7), .ref (mm 8), .ref (mm 9), .int 0, .ref (mm 10), .ref (mm 11), .int 0, .int 0, .ref (mm 12), .ref (mm 13), .int 0, .ref (mm 14), .ref (mm 15), .ref (mm 16)])), ((mm 1), .inl (k 0, 1227, .inl v_18)), ((mm 2), .inl (k 0, 409, .inl v_19)), ((mm 6), .inl (k 0, 2454, .inl v_20)), ((mm 8), .inl (k 0, 4, .inl (fun _ => 0))), ((mm 9), .inl (k 0, 4, .inl (fun _ => 0)))] H := hP
        have hD : va_D A [((mm 0), .inr (7, [.int 0, .ref (mm 1), .ref (mm 2), .ref (mm 3), .ref (mm 4), .ref (mm 5), .int 0, .int 0, .int 0, .int 0, .int 0, .int 0, .int 0, .int 0, .int 0, .int (-1), .int 0, .ref (mm 6), .int 0, .ref (mm 7), .ref (mm 8), .ref (mm 9), .int 0, .ref (mm 10), .ref (mm 11), .int 0, .int 0, .ref (mm 12), .ref (mm 13), .int 0, .ref (mm 14), .ref (mm 15), .ref (mm 16)])), ((mm 1), .inl (k 0, 1227, .inl v_18)), ((mm 2), .inl (k 0, 409, .inl v_19)), ((mm 6), .inl (k 0, 2454, .inl v_20)), ((mm 8), .inl (k 0, 4, .inl (fun _ => 0))), ((mm 9), .inl (k 0, 4, .inl (fun _ => 0)))] := hD
        refine lv_aload_n hx hb dX8_dry_66 rfl (lv_at hl 0 rfl) ?_
        refine va_get (D := D) (ci := 7) (v := .int 0) (C := RX8) (T := TX8) (N := 33) hx hb hts inlX8 hown hK hP 0 rfl rfl 22 (by decide) (hts _ mw_805) (fun _ h9 => h9) rfl dX8_dry_67 ?_
        refine lv_iconst (v := (-1)) hx hb dX8_dry_70 (by decide) ?_
        refine lv_icmp_eq (tgt := 78) hx hb dX8_dry_71 (by decide) (fun c9 => absurd c9 (by decide)) (fun _ => ?_)
        refine lv_iload_n hx hb dX8_dry_74 rfl (lv_at hl 2 rfl) ?_
        refine lv_ni (v := 0) (qc_1) ?_
        refine lv_if_ne (tgt := 83) hx hb dX8_dry_75 (by decide) (fun c9 => absurd c9 (by decide)) (fun _ => ?_)
        refine lv_aload_n hx hb dX8_dry_78 rfl (lv_at hl 0 rfl) ?_
        refine va_get (D := D) (ci := 7) (v := .int 0) (C := RX8) (T := TX8) (N := 33) hx hb hts inlX8 hown hK hP 0 rfl rfl 22 (by decide) (hts _ mw_805) (fun _ h9 => h9) rfl dX8_dry_79 ?_
        have hP9 := hP.sub (ws' := []) [] rfl
        have hD9 := hD.sub (ws' := []) [] (by decide) rfl
        exact W.iret (v := 0) hx hb hr (fun t ht hW => ⟨⟨0, (), rfl, (by (repeat' split) <;> first | rfl | (exfalso; omega)), by rw [ht]; exact hP9, hD9⟩, hS.F ht⟩) hS.2.2 dX8_dry_82
      · have qc_6 : a = 3 := ti_of (show a.toInt = 3 from c_6)
        refine lv_aload_n hx hb dX8_dry_54 rfl (lv_at hl 0 rfl) ?_
        refine lv_iconst (v := (-1)) hx hb dX8_dry_55 (by decide) ?_
        refine va_put (D := D) (ci := 7) (v := .int (-1)) (ty := .int) (C := RX8) (T := TX8) (N := 33) hx hb hts inlX8 tyX8 tyX8_ok nmX8 hown hK hP hD hS 0 rfl rfl 22 (by decide) (hts _ mw_805) (fun _ h9 => h9) rfl (by decide +kernel) rfl rfl (Nat.le_of_ble_eq_true rfl) dX8_dry_56 (fun H locs hP hD hS => ?_)
        have hP : va_P D vwCl [((mm 0), .inr (7, [.int 0, .ref (mm 1), .ref (mm 2), .ref (mm 3), .ref (mm 4), .ref (mm 5), .int 0, .int 0, .int 0, .int 0, .int 0, .int 0, .int 0, .int 0, .int 0, .int (-1), .int 0, .ref (mm 6), .int 0, .ref (mm 7), .ref (mm 8), .ref (mm 9), .int (-1), .ref (mm 10), .ref (mm 11), .int 0, .int 0, .ref (mm 12), .ref (mm 13), .int 0, .ref (mm 14), .ref (mm 15), .ref (mm 16)])), ((mm 1), .inl (k 0, 1227, .inl f)), ((mm 2), .inl (k 0, 409, .inl (fun _ => 0))), ((mm 6), .inl (k 0, 2454, .inl (fun _ => 0))), ((mm 8), .inl (k 0, 4, .inl (fun _ => 0))), ((mm 9), .inl (k 0, 4, .inl (fun _ => 0)))] H := hP
        have hD : va_D A [((mm 0), .inr (7, [.int 0, .ref (mm 1), .ref (mm 2), .ref (mm 3), .ref (mm 4), .ref (mm 5), .int 0, .int 0, .int 0, .int 0, .int 0, .int 0, .int 0, .int 0, .int 0, .int (-1), .int 0, .ref (mm 6), .int 0, .ref (mm 7), .ref (mm 8), .ref (mm 9), .int (-1), .ref (mm 10), .ref (mm 11), .int 0, .int 0, .ref (mm 12), .ref (mm 13), .int 0, .ref (mm 14), .ref (mm 15), .ref (mm 16)])), ((mm 1), .inl (k 0, 1227, .inl f)), ((mm 2), .inl (k 0, 409, .inl (fun _ => 0))), ((mm 6), .inl (k 0, 2454, .inl (fun _ => 0))), ((mm 8), .inl (k 0, 4, .inl (fun _ => 0))), ((mm 9), .inl (k 0, 4, .inl (fun _ => 0)))] := hD
        refine lv_aload_n hx hb dX8_dry_59 rfl (lv_at hl 0 rfl) ?_
        refine lv_iconst (v := 0) hx hb dX8_dry_60 (by decide) ?_
        refine lv_iload_n hx hb dX8_dry_61 rfl (lv_at hl 1 rfl) ?_
        refine lv_ni (v := 3) (qc_6) ?_
        refine lv_iconst (v := 0) hx hb dX8_dry_62 (by decide) ?_
        refine kV_uv (q0 := 0) (As := [.int 0, .int 3, .int 0]) (rest := []) (wc := [((mm 0), .inr (7, [.int 0, .ref (mm 1), .ref (mm 2), .ref (mm 3), .ref (mm 4), .ref (mm 5), .int 0, .int 0, .int 0, .int 0, .int 0, .int 0, .int 0, .int 0, .int 0, .int (-1), .int 0, .ref (mm 6), .int 0, .ref (mm 7), .ref (mm 8), .ref (mm 9), .int (-1), .ref (mm 10), .ref (mm 11), .int 0, .int 0, .ref (mm 12), .ref (mm 13), .int 0, .ref (mm 14), .ref (mm 15), .ref (mm 16)])), ((mm 1), .inl (k 0, 1227, .inl f)), ((mm 2), .inl (k 0, 409, .inl (fun _ => 0))), ((mm 6), .inl (k 0, 2454, .inl (fun _ => 0))), ((mm 8), .inl (k 0, 4, .inl (fun _ => 0))), ((mm 9), .inl (k 0, 4, .inl (fun _ => 0)))]) (wr := []) ⟨hx, hb, hml, hown, hts⟩ (c_M_keepsDry3_0 l D k _ f (fun _ => 0) (fun _ => 0) _ hf0 rfl KZ_0) (gV mw_806 mw_807 mw_808 mw_5 mw_809) hd_yX8_keepsDry rfl rfl ⟨Nat.le_of_ble_eq_true rfl, Nat.le_of_ble_eq_true rfl⟩ hK hP hD hS hA [0, 1, 2, 3, 4, 5] [] rfl rfl (by decide) (by decide) (by decide) rfl rfl rfl rfl hl.1 rfl (Nat.le_of_ble_eq_true rfl) dX8_dry_63 ⟨Nat.le_of_ble_eq_true rfl, Nat.le_of_ble_eq_true rfl⟩ (fun u_25 H locs hw hP hD hS => ?_)
        obtain ⟨v_26, v_27, v_28⟩ := u_25
        obtain ⟨h_29, h_30, h_31⟩ := hw
        have h_29 : v_26 0 = 0 := h_29
        have h_30 : v_27 0 = 0 := h_30
        have h_31 : KZ v_28 := h_31
        have hP : va_P D vwCl [((mm 0), .inr (7, [.int 0, .ref (mm 1), .ref (mm 2), .ref (mm 3), .ref (mm 4), .ref (mm 5), .int 0, .int 0, .int 0, .int 0, .int 0, .int 0, .int 0, .int 0, .int 0, .int (-1), .int 0, .ref (mm 6), .int 0, .ref (mm 7), .ref (mm 8), .ref (mm 9), .int 0, .ref (mm 10), .ref (mm 11), .int 0, .int 0, .ref (mm 12), .ref (mm 13), .int 0, .ref (mm 14), .ref (mm 15), .ref (mm 16)])), ((mm 1), .inl (k 0, 1227, .inl v_26)), ((mm 2), .inl (k 0, 409, .inl v_27)), ((mm 6), .inl (k 0, 2454, .inl v_28)), ((mm 8), .inl (k 0, 4, .inl (fun _ => 0))), ((mm 9), .inl (k 0, 4, .inl (fun _ => 0)))] H := hP
        have hD : va_D A [((mm 0), .inr (7, [.int 0, .ref (mm 1), .ref (mm 2), .ref (mm 3), .ref (mm 4), .ref (mm 5), .int 0, .int 0, .int 0, .int 0, .int 0, .int 0, .int 0, .int 0, .int 0, .int (-1), .int 0, .ref (mm 6), .int 0, .ref (mm 7), .ref (mm 8), .ref (mm 9), .int 0, .ref (mm 10), .ref (mm 11), .int 0, .int 0, .ref (mm 12), .ref (mm 13), .int 0, .ref (mm 14), .ref (mm 15), .ref (mm 16)])), ((mm 1), .inl (k 0, 1227, .inl v_26)), ((mm 2), .inl (k 0, 409, .inl v_27)), ((mm 6), .inl (k 0, 2454, .inl v_28)), ((mm 8), .inl (k 0, 4, .inl (fun _ => 0))), ((mm 9), .inl (k 0, 4, .inl (fun _ => 0)))] := hD
        refine lv_aload_n hx hb dX8_dry_66 rfl (lv_at hl 0 rfl) ?_
        refine va_get (D := D) (ci := 7) (v := .int 0) (C := RX8) (T := TX8) (N := 33) hx hb hts inlX8 hown hK hP 0 rfl rfl 22 (by decide) (hts _ mw_805) (fun _ h9 => h9) rfl dX8_dry_67 ?_
        refine lv_iconst (v := (-1)) hx hb dX8_dry_70 (by decide) ?_
        refine lv_icmp_eq (tgt := 78) hx hb dX8_dry_71 (by decide) (fun c9 => absurd c9 (by decide)) (fun _ => ?_)
        refine lv_iload_n hx hb dX8_dry_74 rfl (lv_at hl 2 rfl) ?_
        refine lv_ni (v := 0) (qc_1) ?_
        refine lv_if_ne (tgt := 83) hx hb dX8_dry_75 (by decide) (fun c9 => absurd c9 (by decide)) (fun _ => ?_)
        refine lv_aload_n hx hb dX8_dry_78 rfl (lv_at hl 0 rfl) ?_
        refine va_get (D := D) (ci := 7) (v := .int 0) (C := RX8) (T := TX8) (N := 33) hx hb hts inlX8 hown hK hP 0 rfl rfl 22 (by decide) (hts _ mw_805) (fun _ h9 => h9) rfl dX8_dry_79 ?_
        have hP9 := hP.sub (ws' := []) [] rfl
        have hD9 := hD.sub (ws' := []) [] (by decide) rfl
        exact W.iret (v := 0) hx hb hr (fun t ht hW => ⟨⟨0, (), rfl, (by (repeat' split) <;> first | rfl | (exfalso; omega)), by rw [ht]; exact hP9, hD9⟩, hS.F ht⟩) hS.2.2 dX8_dry_82
      · have qc_7 : a = 4 := ti_of (show a.toInt = 4 from c_7)
        refine lv_aload_n hx hb dX8_dry_54 rfl (lv_at hl 0 rfl) ?_
        refine lv_iconst (v := (-1)) hx hb dX8_dry_55 (by decide) ?_
        refine va_put (D := D) (ci := 7) (v := .int (-1)) (ty := .int) (C := RX8) (T := TX8) (N := 33) hx hb hts inlX8 tyX8 tyX8_ok nmX8 hown hK hP hD hS 0 rfl rfl 22 (by decide) (hts _ mw_805) (fun _ h9 => h9) rfl (by decide +kernel) rfl rfl (Nat.le_of_ble_eq_true rfl) dX8_dry_56 (fun H locs hP hD hS => ?_)
        have hP : va_P D vwCl [((mm 0), .inr (7, [.int 0, .ref (mm 1), .ref (mm 2), .ref (mm 3), .ref (mm 4), .ref (mm 5), .int 0, .int 0, .int 0, .int 0, .int 0, .int 0, .int 0, .int 0, .int 0, .int (-1), .int 0, .ref (mm 6), .int 0, .ref (mm 7), .ref (mm 8), .ref (mm 9), .int (-1), .ref (mm 10), .ref (mm 11), .int 0, .int 0, .ref (mm 12), .ref (mm 13), .int 0, .ref (mm 14), .ref (mm 15), .ref (mm 16)])), ((mm 1), .inl (k 0, 1227, .inl f)), ((mm 2), .inl (k 0, 409, .inl (fun _ => 0))), ((mm 6), .inl (k 0, 2454, .inl (fun _ => 0))), ((mm 8), .inl (k 0, 4, .inl (fun _ => 0))), ((mm 9), .inl (k 0, 4, .inl (fun _ => 0)))] H := hP
        have hD : va_D A [((mm 0), .inr (7, [.int 0, .ref (mm 1), .ref (mm 2), .ref (mm 3), .ref (mm 4), .ref (mm 5), .int 0, .int 0, .int 0, .int 0, .int 0, .int 0, .int 0, .int 0, .int 0, .int (-1), .int 0, .ref (mm 6), .int 0, .ref (mm 7), .ref (mm 8), .ref (mm 9), .int (-1), .ref (mm 10), .ref (mm 11), .int 0, .int 0, .ref (mm 12), .ref (mm 13), .int 0, .ref (mm 14), .ref (mm 15), .ref (mm 16)])), ((mm 1), .inl (k 0, 1227, .inl f)), ((mm 2), .inl (k 0, 409, .inl (fun _ => 0))), ((mm 6), .inl (k 0, 2454, .inl (fun _ => 0))), ((mm 8), .inl (k 0, 4, .inl (fun _ => 0))), ((mm 9), .inl (k 0, 4, .inl (fun _ => 0)))] := hD
        refine lv_aload_n hx hb dX8_dry_59 rfl (lv_at hl 0 rfl) ?_
        refine lv_iconst (v := 0) hx hb dX8_dry_60 (by decide) ?_
        refine lv_iload_n hx hb dX8_dry_61 rfl (lv_at hl 1 rfl) ?_
        refine lv_ni (v := 4) (qc_7) ?_
        refine lv_iconst (v := 0) hx hb dX8_dry_62 (by decide) ?_
        refine kV_uv (q0 := 0) (As := [.int 0, .int 4, .int 0]) (rest := []) (wc := [((mm 0), .inr (7, [.int 0, .ref (mm 1), .ref (mm 2), .ref (mm 3), .ref (mm 4), .ref (mm 5), .int 0, .int 0, .int 0, .int 0, .int 0, .int 0, .int 0, .int 0, .int 0, .int (-1), .int 0, .ref (mm 6), .int 0, .ref (mm 7), .ref (mm 8), .ref (mm 9), .int (-1), .ref (mm 10), .ref (mm 11), .int 0, .int 0, .ref (mm 12), .ref (mm 13), .int 0, .ref (mm 14), .ref (mm 15), .ref (mm 16)])), ((mm 1), .inl (k 0, 1227, .inl f)), ((mm 2), .inl (k 0, 409, .inl (fun _ => 0))), ((mm 6), .inl (k 0, 2454, .inl (fun _ => 0))), ((mm 8), .inl (k 0, 4, .inl (fun _ => 0))), ((mm 9), .inl (k 0, 4, .inl (fun _ => 0)))]) (wr := []) ⟨hx, hb, hml, hown, hts⟩ (c_M_keepsDry4_0 l D k _ f (fun _ => 0) (fun _ => 0) _ hf0 rfl KZ_0) (gV mw_806 mw_807 mw_808 mw_5 mw_809) hd_yX8_keepsDry rfl rfl ⟨Nat.le_of_ble_eq_true rfl, Nat.le_of_ble_eq_true rfl⟩ hK hP hD hS hA [0, 1, 2, 3, 4, 5] [] rfl rfl (by decide) (by decide) (by decide) rfl rfl rfl rfl hl.1 rfl (Nat.le_of_ble_eq_true rfl) dX8_dry_63 ⟨Nat.le_of_ble_eq_true rfl, Nat.le_of_ble_eq_true rfl⟩ (fun u_33 H locs hw hP hD hS => ?_)
        obtain ⟨v_34, v_35, v_36⟩ := u_33
        obtain ⟨h_37, h_38, h_39⟩ := hw
        have h_37 : v_34 0 = 0 := h_37
        have h_38 : v_35 0 = 0 := h_38
        have h_39 : KZ v_36 := h_39
        have hP : va_P D vwCl [((mm 0), .inr (7, [.int 0, .ref (mm 1), .ref (mm 2), .ref (mm 3), .ref (mm 4), .ref (mm 5), .int 0, .int 0, .int 0, .int 0, .int 0, .int 0, .int 0, .int 0, .int 0, .int (-1), .int 0, .ref (mm 6), .int 0, .ref (mm 7), .ref (mm 8), .ref (mm 9), .int 0, .ref (mm 10), .ref (mm 11), .int 0, .int 0, .ref (mm 12), .ref (mm 13), .int 0, .ref (mm 14), .ref (mm 15), .ref (mm 16)])), ((mm 1), .inl (k 0, 1227, .inl v_34)), ((mm 2), .inl (k 0, 409, .inl v_35)), ((mm 6), .inl (k 0, 2454, .inl v_36)), ((mm 8), .inl (k 0, 4, .inl (fun _ => 0))), ((mm 9), .inl (k 0, 4, .inl (fun _ => 0)))] H := hP
        have hD : va_D A [((mm 0), .inr (7, [.int 0, .ref (mm 1), .ref (mm 2), .ref (mm 3), .ref (mm 4), .ref (mm 5), .int 0, .int 0, .int 0, .int 0, .int 0, .int 0, .int 0, .int 0, .int 0, .int (-1), .int 0, .ref (mm 6), .int 0, .ref (mm 7), .ref (mm 8), .ref (mm 9), .int 0, .ref (mm 10), .ref (mm 11), .int 0, .int 0, .ref (mm 12), .ref (mm 13), .int 0, .ref (mm 14), .ref (mm 15), .ref (mm 16)])), ((mm 1), .inl (k 0, 1227, .inl v_34)), ((mm 2), .inl (k 0, 409, .inl v_35)), ((mm 6), .inl (k 0, 2454, .inl v_36)), ((mm 8), .inl (k 0, 4, .inl (fun _ => 0))), ((mm 9), .inl (k 0, 4, .inl (fun _ => 0)))] := hD
        refine lv_aload_n hx hb dX8_dry_66 rfl (lv_at hl 0 rfl) ?_
        refine va_get (D := D) (ci := 7) (v := .int 0) (C := RX8) (T := TX8) (N := 33) hx hb hts inlX8 hown hK hP 0 rfl rfl 22 (by decide) (hts _ mw_805) (fun _ h9 => h9) rfl dX8_dry_67 ?_
        refine lv_iconst (v := (-1)) hx hb dX8_dry_70 (by decide) ?_
        refine lv_icmp_eq (tgt := 78) hx hb dX8_dry_71 (by decide) (fun c9 => absurd c9 (by decide)) (fun _ => ?_)
        refine lv_iload_n hx hb dX8_dry_74 rfl (lv_at hl 2 rfl) ?_
        refine lv_ni (v := 0) (qc_1) ?_
        refine lv_if_ne (tgt := 83) hx hb dX8_dry_75 (by decide) (fun c9 => absurd c9 (by decide)) (fun _ => ?_)
        refine lv_aload_n hx hb dX8_dry_78 rfl (lv_at hl 0 rfl) ?_
        refine va_get (D := D) (ci := 7) (v := .int 0) (C := RX8) (T := TX8) (N := 33) hx hb hts inlX8 hown hK hP 0 rfl rfl 22 (by decide) (hts _ mw_805) (fun _ h9 => h9) rfl dX8_dry_79 ?_
        have hP9 := hP.sub (ws' := []) [] rfl
        have hD9 := hD.sub (ws' := []) [] (by decide) rfl
        exact W.iret (v := 0) hx hb hr (fun t ht hW => ⟨⟨0, (), rfl, (by (repeat' split) <;> first | rfl | (exfalso; omega)), by rw [ht]; exact hP9, hD9⟩, hS.F ht⟩) hS.2.2 dX8_dry_82
    have hr_2 := hr_2.trans (if_neg hc_3)
    obtain rfl : r_2 = 0 := hr_2
    refine lv_if_ne (tgt := 41) hx hb dX8_dry_35 (by decide) (fun c9 => absurd c9 (by decide)) (fun _ => ?_)
    refine lv_bipush (v := (-3)) hx hb dX8_dry_38 (by decide) ?_
    have hP9 := hP.sub (ws' := []) [] rfl
    have hD9 := hD.sub (ws' := []) [] (by decide) rfl
    exact W.iret (v := (-3)) hx hb hr (fun t ht hW => ⟨⟨(-3), (), rfl, (by (repeat' split) <;> first | rfl | (exfalso; omega)), by rw [ht]; exact hP9, hD9⟩, hS.F ht⟩) hS.2.2 dX8_dry_40
  · have c_1 : x.toInt ≠ 0 := ti_ne c_1
    refine lv_iload_n hx hb dX8_dry_9 rfl (lv_at hl 2 rfl) ?_
    refine lv_i2l (v := x.toInt64) hx hb dX8_dry_10 rfl ?_
    refine lv_ldc2 (own := RX8) (index := 258) (v := 10) hx hb hown (hts _ mw_802) dX8_dry_11 ?_
    refine lv_ldc2 (own := RX8) (index := 260) (v := 13) hx hb hown (hts _ mw_803) dX8_dry_14 ?_
    refine kS_i (As := [.long x.toInt64, .long 10, .long 13]) (rest := []) (cs := []) ⟨hx, hb, hml, hown, hts⟩ (c_M_within l D k x 10 13) (gS mw_294 mw_295 mw_5 mw_296) hd_yX8_within rfl rfl ⟨Nat.le_of_ble_eq_true rfl, Nat.le_of_ble_eq_true rfl⟩ hK (hP.sub (ws' := []) [] rfl) rfl hl.1 rfl (Nat.le_of_ble_eq_true rfl) dX8_dry_17 ⟨Nat.le_of_ble_eq_true rfl, Nat.le_of_ble_eq_true rfl⟩ (fun r_40 hr_40 => ?_)
    by_cases hc_41 : 10 ≤ x.toInt ∧ x.toInt ≤ 13
    · obtain rfl : r_40 = 1 := hr_40.trans (if_pos hc_41)
      refine lv_if_ne (tgt := 26) hx hb dX8_dry_20 (by decide) (fun _ => ?_) (fun c9 => absurd c9 (by decide))
      refine lv_iload_n hx hb dX8_dry_26 rfl (lv_at hl 1 rfl) ?_
      refine lv_i2l (v := a.toInt64) hx hb dX8_dry_27 rfl ?_
      refine lv_lconst (v := 1) hx hb dX8_dry_28 (by decide) ?_
      refine lv_ldc2 (own := RX8) (index := 262) (v := 4) hx hb hown (hts _ mw_804) dX8_dry_29 ?_
      refine kS_i (As := [.long a.toInt64, .long 1, .long 4]) (rest := []) (cs := []) ⟨hx, hb, hml, hown, hts⟩ (c_M_within l D k a 1 4) (gS mw_294 mw_295 mw_5 mw_296) hd_yX8_within rfl rfl ⟨Nat.le_of_ble_eq_true rfl, Nat.le_of_ble_eq_true rfl⟩ hK (hP.sub (ws' := []) [] rfl) rfl hl.1 rfl (Nat.le_of_ble_eq_true rfl) dX8_dry_32 ⟨Nat.le_of_ble_eq_true rfl, Nat.le_of_ble_eq_true rfl⟩ (fun r_42 hr_42 => ?_)
      by_cases hc_43 : 1 ≤ a.toInt ∧ a.toInt ≤ 4
      · obtain rfl : r_42 = 1 := hr_42.trans (if_pos hc_43)
        refine lv_if_ne (tgt := 41) hx hb dX8_dry_35 (by decide) (fun _ => ?_) (fun c9 => absurd c9 (by decide))
        refine lv_aload_n hx hb dX8_dry_41 rfl (lv_at hl 0 rfl) ?_
        refine va_get (D := D) (ci := 7) (v := .ref (mm 1)) (C := RX8) (T := TX8) (N := 33) hx hb hts inlX8 hown hK hP 0 rfl rfl 1 (by decide) (hts _ mw_91) (fun _ h9 => h9) rfl dX8_dry_42 ?_
        refine lv_iconst (v := 0) hx hb dX8_dry_45 (by decide) ?_
        refine va_iald hx hb hK hP 1 0 rfl rfl (vp_in_c (by decide)) dX8_dry_46 ?_
        refine lv_ni (v := 0) (hf0) ?_
        refine lv_iconst (v := 4) hx hb dX8_dry_47 (by decide) ?_
        refine lv_icmp_le (tgt := 54) hx hb dX8_dry_48 (by decide) (fun _ => ?_) (fun c9 => absurd c9 (by decide))
        rcases (show a.toInt = 1 ∨ a.toInt = 2 ∨ a.toInt = 3 ∨ a.toInt = 4 from by omega) with c_44 | c_45 | c_46 | c_47
        · have qc_44 : a = 1 := ti_of (show a.toInt = 1 from c_44)
          refine lv_aload_n hx hb dX8_dry_54 rfl (lv_at hl 0 rfl) ?_
          refine lv_iconst (v := (-1)) hx hb dX8_dry_55 (by decide) ?_
          refine va_put (D := D) (ci := 7) (v := .int (-1)) (ty := .int) (C := RX8) (T := TX8) (N := 33) hx hb hts inlX8 tyX8 tyX8_ok nmX8 hown hK hP hD hS 0 rfl rfl 22 (by decide) (hts _ mw_805) (fun _ h9 => h9) rfl (by decide +kernel) rfl rfl (Nat.le_of_ble_eq_true rfl) dX8_dry_56 (fun H locs hP hD hS => ?_)
          have hP : va_P D vwCl [((mm 0), .inr (7, [.int 0, .ref (mm 1), .ref (mm 2), .ref (mm 3), .ref (mm 4), .ref (mm 5), .int 0, .int 0, .int 0, .int 0, .int 0, .int 0, .int 0, .int 0, .int 0, .int (-1), .int 0, .ref (mm 6), .int 0, .ref (mm 7), .ref (mm 8), .ref (mm 9), .int (-1), .ref (mm 10), .ref (mm 11), .int 0, .int 0, .ref (mm 12), .ref (mm 13), .int 0, .ref (mm 14), .ref (mm 15), .ref (mm 16)])), ((mm 1), .inl (k 0, 1227, .inl f)), ((mm 2), .inl (k 0, 409, .inl (fun _ => 0))), ((mm 6), .inl (k 0, 2454, .inl (fun _ => 0))), ((mm 8), .inl (k 0, 4, .inl (fun _ => 0))), ((mm 9), .inl (k 0, 4, .inl (fun _ => 0)))] H := hP
          have hD : va_D A [((mm 0), .inr (7, [.int 0, .ref (mm 1), .ref (mm 2), .ref (mm 3), .ref (mm 4), .ref (mm 5), .int 0, .int 0, .int 0, .int 0, .int 0, .int 0, .int 0, .int 0, .int 0, .int (-1), .int 0, .ref (mm 6), .int 0, .ref (mm 7), .ref (mm 8), .ref (mm 9), .int (-1), .ref (mm 10), .ref (mm 11), .int 0, .int 0, .ref (mm 12), .ref (mm 13), .int 0, .ref (mm 14), .ref (mm 15), .ref (mm 16)])), ((mm 1), .inl (k 0, 1227, .inl f)), ((mm 2), .inl (k 0, 409, .inl (fun _ => 0))), ((mm 6), .inl (k 0, 2454, .inl (fun _ => 0))), ((mm 8), .inl (k 0, 4, .inl (fun _ => 0))), ((mm 9), .inl (k 0, 4, .inl (fun _ => 0)))] := hD
          refine lv_aload_n hx hb dX8_dry_59 rfl (lv_at hl 0 rfl) ?_
          refine lv_iconst (v := 0) hx hb dX8_dry_60 (by decide) ?_
          refine lv_iload_n hx hb dX8_dry_61 rfl (lv_at hl 1 rfl) ?_
          refine lv_ni (v := 1) (qc_44) ?_
          refine lv_iconst (v := 0) hx hb dX8_dry_62 (by decide) ?_
          refine kV_uv (q0 := 0) (As := [.int 0, .int 1, .int 0]) (rest := []) (wc := [((mm 0), .inr (7, [.int 0, .ref (mm 1), .ref (mm 2), .ref (mm 3), .ref (mm 4), .ref (mm 5), .int 0, .int 0, .int 0, .int 0, .int 0, .int 0, .int 0, .int 0, .int 0, .int (-1), .int 0, .ref (mm 6), .int 0, .ref (mm 7), .ref (mm 8), .ref (mm 9), .int (-1), .ref (mm 10), .ref (mm 11), .int 0, .int 0, .ref (mm 12), .ref (mm 13), .int 0, .ref (mm 14), .ref (mm 15), .ref (mm 16)])), ((mm 1), .inl (k 0, 1227, .inl f)), ((mm 2), .inl (k 0, 409, .inl (fun _ => 0))), ((mm 6), .inl (k 0, 2454, .inl (fun _ => 0))), ((mm 8), .inl (k 0, 4, .inl (fun _ => 0))), ((mm 9), .inl (k 0, 4, .inl (fun _ => 0)))]) (wr := []) ⟨hx, hb, hml, hown, hts⟩ (c_M_keepsDry1_0 l D k _ f (fun _ => 0) (fun _ => 0) _ hf0 rfl KZ_0) (gV mw_806 mw_807 mw_808 mw_5 mw_809) hd_yX8_keepsDry rfl rfl ⟨Nat.le_of_ble_eq_true rfl, Nat.le_of_ble_eq_true rfl⟩ hK hP hD hS hA [0, 1, 2, 3, 4, 5] [] rfl rfl (by decide) (by decide) (by decide) rfl rfl rfl rfl hl.1 rfl (Nat.le_of_ble_eq_true rfl) dX8_dry_63 ⟨Nat.le_of_ble_eq_true rfl, Nat.le_of_ble_eq_true rfl⟩ (fun u_49 H locs hw hP hD hS => ?_)
          obtain ⟨v_50, v_51, v_52⟩ := u_49
          obtain ⟨h_53, h_54, h_55⟩ := hw
          have h_53 : v_50 0 = 0 := h_53
          have h_54 : v_51 0 = 0 := h_54
          have h_55 : KZ v_52 := h_55
          have hP : va_P D vwCl [((mm 0), .inr (7, [.int 0, .ref (mm 1), .ref (mm 2), .ref (mm 3), .ref (mm 4), .ref (mm 5), .int 0, .int 0, .int 0, .int 0, .int 0, .int 0, .int 0, .int 0, .int 0, .int (-1), .int 0, .ref (mm 6), .int 0, .ref (mm 7), .ref (mm 8), .ref (mm 9), .int 0, .ref (mm 10), .ref (mm 11), .int 0, .int 0, .ref (mm 12), .ref (mm 13), .int 0, .ref (mm 14), .ref (mm 15), .ref (mm 16)])), ((mm 1), .inl (k 0, 1227, .inl v_50)), ((mm 2), .inl (k 0, 409, .inl v_51)), ((mm 6), .inl (k 0, 2454, .inl v_52)), ((mm 8), .inl (k 0, 4, .inl (fun _ => 0))), ((mm 9), .inl (k 0, 4, .inl (fun _ => 0)))] H := hP
          have hD : va_D A [((mm 0), .inr (7, [.int 0, .ref (mm 1), .ref (mm 2), .ref (mm 3), .ref (mm 4), .ref (mm 5), .int 0, .int 0, .int 0, .int 0, .int 0, .int 0, .int 0, .int 0, .int 0, .int (-1), .int 0, .ref (mm 6), .int 0, .ref (mm 7), .ref (mm 8), .ref (mm 9), .int 0, .ref (mm 10), .ref (mm 11), .int 0, .int 0, .ref (mm 12), .ref (mm 13), .int 0, .ref (mm 14), .ref (mm 15), .ref (mm 16)])), ((mm 1), .inl (k 0, 1227, .inl v_50)), ((mm 2), .inl (k 0, 409, .inl v_51)), ((mm 6), .inl (k 0, 2454, .inl v_52)), ((mm 8), .inl (k 0, 4, .inl (fun _ => 0))), ((mm 9), .inl (k 0, 4, .inl (fun _ => 0)))] := hD
          refine lv_aload_n hx hb dX8_dry_66 rfl (lv_at hl 0 rfl) ?_
          refine va_get (D := D) (ci := 7) (v := .int 0) (C := RX8) (T := TX8) (N := 33) hx hb hts inlX8 hown hK hP 0 rfl rfl 22 (by decide) (hts _ mw_805) (fun _ h9 => h9) rfl dX8_dry_67 ?_
          refine lv_iconst (v := (-1)) hx hb dX8_dry_70 (by decide) ?_
          refine lv_icmp_eq (tgt := 78) hx hb dX8_dry_71 (by decide) (fun c9 => absurd c9 (by decide)) (fun _ => ?_)
          refine lv_iload_n hx hb dX8_dry_74 rfl (lv_at hl 2 rfl) ?_
          refine lv_if_ne (tgt := 83) hx hb dX8_dry_75 (by decide) (fun c_56 => ?_) (fun c_56 => by have q := ti_eq c_56; have q : x.toInt = 0 := q; exfalso; omega)
          have c_56 : x.toInt ≠ 0 := ti_ne c_56
          refine lv_iload_n hx hb dX8_dry_83 rfl (lv_at hl 2 rfl) ?_
          refine lv_bipush (v := 10) hx hb dX8_dry_84 (by decide) ?_
          refine lv_isub hx hb dX8_dry_86 ?_
          refine lv_topi (fun z_57 ez_57 => ?_)
          have tz_57 : z_57.toInt = x.toInt - 10 := by rw [ez_57]; exact ti_subc (by decide) (by omega) (by omega)
          refine lv_iload_n hx hb dX8_dry_87 rfl (lv_at hl 1 rfl) ?_
          refine lv_ni (v := 1) (qc_44) ?_
          refine lv_icmp_ge (tgt := 103) hx hb dX8_dry_88 (by decide) (fun c_58 => ?_) (fun c_58 => ?_)
          · have c_58 : 1 ≤ z_57.toInt := ti_le c_58
            refine lv_iconst (v := (-1)) hx hb dX8_dry_103 (by decide) ?_
            have hP9 := hP.sub (ws' := []) [] rfl
            have hD9 := hD.sub (ws' := []) [] (by decide) rfl
            exact W.iret (v := (-1)) hx hb hr (fun t ht hW => ⟨⟨(-1), (), rfl, (by (repeat' split) <;> first | rfl | (exfalso; omega)), by rw [ht]; exact hP9, hD9⟩, hS.F ht⟩) hS.2.2 dX8_dry_104
          · have c_58 : z_57.toInt < 1 := ti_nle c_58
            have qc_58 : z_57 = 0 := ti_of (show z_57.toInt = 0 from by omega)
            refine lv_aload_n hx hb dX8_dry_91 rfl (lv_at hl 0 rfl) ?_
            refine va_get (D := D) (ci := 7) (v := .ref (mm 9)) (C := RX8) (T := TX8) (N := 33) hx hb hts inlX8 hown hK hP 0 rfl rfl 21 (by decide) (hts _ mw_100) (fun _ h9 => h9) rfl dX8_dry_92 ?_
            refine lv_iload_n hx hb dX8_dry_95 rfl (lv_at hl 2 rfl) ?_
            refine lv_bipush (v := 10) hx hb dX8_dry_96 (by decide) ?_
            refine lv_isub hx hb dX8_dry_98 ?_
            refine lv_topi (fun z_59 ez_59 => ?_)
            have tz_59 : z_59.toInt = x.toInt - 10 := by rw [ez_59]; exact ti_subc (by decide) (by omega) (by omega)
            refine va_iald hx hb hK hP 5 0 rfl rfl (vp_in_o (by omega) (by omega)) dX8_dry_99 ?_
            refine lv_ni (v := 0) (rfl) ?_
            refine lv_goto (tgt := 104) hx hb dX8_dry_100 (by decide) ?_
            have hP9 := hP.sub (ws' := []) [] rfl
            have hD9 := hD.sub (ws' := []) [] (by decide) rfl
            exact W.iret (v := 0) hx hb hr (fun t ht hW => ⟨⟨0, (), rfl, (by (repeat' split) <;> first | rfl | (exfalso; omega)), by rw [ht]; exact hP9, hD9⟩, hS.F ht⟩) hS.2.2 dX8_dry_104
        · have qc_45 : a = 2 := ti_of (show a.toInt = 2 from c_45)
          refine lv_aload_n hx hb dX8_dry_54 rfl (lv_at hl 0 rfl) ?_
          refine lv_iconst (v := (-1)) hx hb dX8_dry_55 (by decide) ?_
          refine va_put (D := D) (ci := 7) (v := .int (-1)) (ty := .int) (C := RX8) (T := TX8) (N := 33) hx hb hts inlX8 tyX8 tyX8_ok nmX8 hown hK hP hD hS 0 rfl rfl 22 (by decide) (hts _ mw_805) (fun _ h9 => h9) rfl (by decide +kernel) rfl rfl (Nat.le_of_ble_eq_true rfl) dX8_dry_56 (fun H locs hP hD hS => ?_)
          have hP : va_P D vwCl [((mm 0), .inr (7, [.int 0, .ref (mm 1), .ref (mm 2), .ref (mm 3), .ref (mm 4), .ref (mm 5), .int 0, .int 0, .int 0, .int 0, .int 0, .int 0, .int 0, .int 0, .int 0, .int (-1), .int 0, .ref (mm 6), .int 0, .ref (mm 7), .ref (mm 8), .ref (mm 9), .int (-1), .ref (mm 10), .ref (mm 11), .int 0, .int 0, .ref (mm 12), .ref (mm 13), .int 0, .ref (mm 14), .ref (mm 15), .ref (mm 16)])), ((mm 1), .inl (k 0, 1227, .inl f)), ((mm 2), .inl (k 0, 409, .inl (fun _ => 0))), ((mm 6), .inl (k 0, 2454, .inl (fun _ => 0))), ((mm 8), .inl (k 0, 4, .inl (fun _ => 0))), ((mm 9), .inl (k 0, 4, .inl (fun _ => 0)))] H := hP
          have hD : va_D A [((mm 0), .inr (7, [.int 0, .ref (mm 1), .ref (mm 2), .ref (mm 3), .ref (mm 4), .ref (mm 5), .int 0, .int 0, .int 0, .int 0, .int 0, .int 0, .int 0, .int 0, .int 0, .int (-1), .int 0, .ref (mm 6), .int 0, .ref (mm 7), .ref (mm 8), .ref (mm 9), .int (-1), .ref (mm 10), .ref (mm 11), .int 0, .int 0, .ref (mm 12), .ref (mm 13), .int 0, .ref (mm 14), .ref (mm 15), .ref (mm 16)])), ((mm 1), .inl (k 0, 1227, .inl f)), ((mm 2), .inl (k 0, 409, .inl (fun _ => 0))), ((mm 6), .inl (k 0, 2454, .inl (fun _ => 0))), ((mm 8), .inl (k 0, 4, .inl (fun _ => 0))), ((mm 9), .inl (k 0, 4, .inl (fun _ => 0)))] := hD
          refine lv_aload_n hx hb dX8_dry_59 rfl (lv_at hl 0 rfl) ?_
          refine lv_iconst (v := 0) hx hb dX8_dry_60 (by decide) ?_
          refine lv_iload_n hx hb dX8_dry_61 rfl (lv_at hl 1 rfl) ?_
          refine lv_ni (v := 2) (qc_45) ?_
          refine lv_iconst (v := 0) hx hb dX8_dry_62 (by decide) ?_
          refine kV_uv (q0 := 0) (As := [.int 0, .int 2, .int 0]) (rest := []) (wc := [((mm 0), .inr (7, [.int 0, .ref (mm 1), .ref (mm 2), .ref (mm 3), .ref (mm 4), .ref (mm 5), .int 0, .int 0, .int 0, .int 0, .int 0, .int 0, .int 0, .int 0, .int 0, .int (-1), .int 0, .ref (mm 6), .int 0, .ref (mm 7), .ref (mm 8), .ref (mm 9), .int (-1), .ref (mm 10), .ref (mm 11), .int 0, .int 0, .ref (mm 12), .ref (mm 13), .int 0, .ref (mm 14), .ref (mm 15), .ref (mm 16)])), ((mm 1), .inl (k 0, 1227, .inl f)), ((mm 2), .inl (k 0, 409, .inl (fun _ => 0))), ((mm 6), .inl (k 0, 2454, .inl (fun _ => 0))), ((mm 8), .inl (k 0, 4, .inl (fun _ => 0))), ((mm 9), .inl (k 0, 4, .inl (fun _ => 0)))]) (wr := []) ⟨hx, hb, hml, hown, hts⟩ (c_M_keepsDry2_0 l D k _ f (fun _ => 0) (fun _ => 0) _ hf0 rfl KZ_0) (gV mw_806 mw_807 mw_808 mw_5 mw_809) hd_yX8_keepsDry rfl rfl ⟨Nat.le_of_ble_eq_true rfl, Nat.le_of_ble_eq_true rfl⟩ hK hP hD hS hA [0, 1, 2, 3, 4, 5] [] rfl rfl (by decide) (by decide) (by decide) rfl rfl rfl rfl hl.1 rfl (Nat.le_of_ble_eq_true rfl) dX8_dry_63 ⟨Nat.le_of_ble_eq_true rfl, Nat.le_of_ble_eq_true rfl⟩ (fun u_61 H locs hw hP hD hS => ?_)
          obtain ⟨v_62, v_63, v_64⟩ := u_61
          obtain ⟨h_65, h_66, h_67⟩ := hw
          have h_65 : v_62 0 = 0 := h_65
          have h_66 : v_63 0 = 0 := h_66
          have h_67 : KZ v_64 := h_67
          have hP : va_P D vwCl [((mm 0), .inr (7, [.int 0, .ref (mm 1), .ref (mm 2), .ref (mm 3), .ref (mm 4), .ref (mm 5), .int 0, .int 0, .int 0, .int 0, .int 0, .int 0, .int 0, .int 0, .int 0, .int (-1), .int 0, .ref (mm 6), .int 0, .ref (mm 7), .ref (mm 8), .ref (mm 9), .int 0, .ref (mm 10), .ref (mm 11), .int 0, .int 0, .ref (mm 12), .ref (mm 13), .int 0, .ref (mm 14), .ref (mm 15), .ref (mm 16)])), ((mm 1), .inl (k 0, 1227, .inl v_62)), ((mm 2), .inl (k 0, 409, .inl v_63)), ((mm 6), .inl (k 0, 2454, .inl v_64)), ((mm 8), .inl (k 0, 4, .inl (fun _ => 0))), ((mm 9), .inl (k 0, 4, .inl (fun _ => 0)))] H := hP
          have hD : va_D A [((mm 0), .inr (7, [.int 0, .ref (mm 1), .ref (mm 2), .ref (mm 3), .ref (mm 4), .ref (mm 5), .int 0, .int 0, .int 0, .int 0, .int 0, .int 0, .int 0, .int 0, .int 0, .int (-1), .int 0, .ref (mm 6), .int 0, .ref (mm 7), .ref (mm 8), .ref (mm 9), .int 0, .ref (mm 10), .ref (mm 11), .int 0, .int 0, .ref (mm 12), .ref (mm 13), .int 0, .ref (mm 14), .ref (mm 15), .ref (mm 16)])), ((mm 1), .inl (k 0, 1227, .inl v_62)), ((mm 2), .inl (k 0, 409, .inl v_63)), ((mm 6), .inl (k 0, 2454, .inl v_64)), ((mm 8), .inl (k 0, 4, .inl (fun _ => 0))), ((mm 9), .inl (k 0, 4, .inl (fun _ => 0)))] := hD
          refine lv_aload_n hx hb dX8_dry_66 rfl (lv_at hl 0 rfl) ?_
          refine va_get (D := D) (ci := 7) (v := .int 0) (C := RX8) (T := TX8) (N := 33) hx hb hts inlX8 hown hK hP 0 rfl rfl 22 (by decide) (hts _ mw_805) (fun _ h9 => h9) rfl dX8_dry_67 ?_
          refine lv_iconst (v := (-1)) hx hb dX8_dry_70 (by decide) ?_
          refine lv_icmp_eq (tgt := 78) hx hb dX8_dry_71 (by decide) (fun c9 => absurd c9 (by decide)) (fun _ => ?_)
          refine lv_iload_n hx hb dX8_dry_74 rfl (lv_at hl 2 rfl) ?_
          refine lv_if_ne (tgt := 83) hx hb dX8_dry_75 (by decide) (fun c_68 => ?_) (fun c_68 => by have q := ti_eq c_68; have q : x.toInt = 0 := q; exfalso; omega)
          have c_68 : x.toInt ≠ 0 := ti_ne c_68
          refine lv_iload_n hx hb dX8_dry_83 rfl (lv_at hl 2 rfl) ?_
          refine lv_bipush (v := 10) hx hb dX8_dry_84 (by decide) ?_
          refine lv_isub hx hb dX8_dry_86 ?_
          refine lv_topi (fun z_69 ez_69 => ?_)
          have tz_69 : z_69.toInt = x.toInt - 10 := by rw [ez_69]; exact ti_subc (by decide) (by omega) (by omega)
          refine lv_iload_n hx hb dX8_dry_87 rfl (lv_at hl 1 rfl) ?_
          refine lv_ni (v := 2) (qc_45) ?_
          refine lv_icmp_ge (tgt := 103) hx hb dX8_dry_88 (by decide) (fun c_70 => ?_) (fun c_70 => ?_)
          · have c_70 : 2 ≤ z_69.toInt := ti_le c_70
            refine lv_iconst (v := (-1)) hx hb dX8_dry_103 (by decide) ?_
            have hP9 := hP.sub (ws' := []) [] rfl
            have hD9 := hD.sub (ws' := []) [] (by decide) rfl
            exact W.iret (v := (-1)) hx hb hr (fun t ht hW => ⟨⟨(-1), (), rfl, (by (repeat' split) <;> first | rfl | (exfalso; omega)), by rw [ht]; exact hP9, hD9⟩, hS.F ht⟩) hS.2.2 dX8_dry_104
          · have c_70 : z_69.toInt < 2 := ti_nle c_70
            refine lv_aload_n hx hb dX8_dry_91 rfl (lv_at hl 0 rfl) ?_
            refine va_get (D := D) (ci := 7) (v := .ref (mm 9)) (C := RX8) (T := TX8) (N := 33) hx hb hts inlX8 hown hK hP 0 rfl rfl 21 (by decide) (hts _ mw_100) (fun _ h9 => h9) rfl dX8_dry_92 ?_
            refine lv_iload_n hx hb dX8_dry_95 rfl (lv_at hl 2 rfl) ?_
            refine lv_bipush (v := 10) hx hb dX8_dry_96 (by decide) ?_
            refine lv_isub hx hb dX8_dry_98 ?_
            refine lv_topi (fun z_71 ez_71 => ?_)
            have tz_71 : z_71.toInt = x.toInt - 10 := by rw [ez_71]; exact ti_subc (by decide) (by omega) (by omega)
            refine va_iald hx hb hK hP 5 0 rfl rfl (vp_in_o (by omega) (by omega)) dX8_dry_99 ?_
            refine lv_ni (v := 0) (rfl) ?_
            refine lv_goto (tgt := 104) hx hb dX8_dry_100 (by decide) ?_
            have hP9 := hP.sub (ws' := []) [] rfl
            have hD9 := hD.sub (ws' := []) [] (by decide) rfl
            exact W.iret (v := 0) hx hb hr (fun t ht hW => ⟨⟨0, (), rfl, (by (repeat' split) <;> first | rfl | (exfalso; omega)), by rw [ht]; exact hP9, hD9⟩, hS.F ht⟩) hS.2.2 dX8_dry_104
        · have qc_46 : a = 3 := ti_of (show a.toInt = 3 from c_46)
          refine lv_aload_n hx hb dX8_dry_54 rfl (lv_at hl 0 rfl) ?_
          refine lv_iconst (v := (-1)) hx hb dX8_dry_55 (by decide) ?_
          refine va_put (D := D) (ci := 7) (v := .int (-1)) (ty := .int) (C := RX8) (T := TX8) (N := 33) hx hb hts inlX8 tyX8 tyX8_ok nmX8 hown hK hP hD hS 0 rfl rfl 22 (by decide) (hts _ mw_805) (fun _ h9 => h9) rfl (by decide +kernel) rfl rfl (Nat.le_of_ble_eq_true rfl) dX8_dry_56 (fun H locs hP hD hS => ?_)
          have hP : va_P D vwCl [((mm 0), .inr (7, [.int 0, .ref (mm 1), .ref (mm 2), .ref (mm 3), .ref (mm 4), .ref (mm 5), .int 0, .int 0, .int 0, .int 0, .int 0, .int 0, .int 0, .int 0, .int 0, .int (-1), .int 0, .ref (mm 6), .int 0, .ref (mm 7), .ref (mm 8), .ref (mm 9), .int (-1), .ref (mm 10), .ref (mm 11), .int 0, .int 0, .ref (mm 12), .ref (mm 13), .int 0, .ref (mm 14), .ref (mm 15), .ref (mm 16)])), ((mm 1), .inl (k 0, 1227, .inl f)), ((mm 2), .inl (k 0, 409, .inl (fun _ => 0))), ((mm 6), .inl (k 0, 2454, .inl (fun _ => 0))), ((mm 8), .inl (k 0, 4, .inl (fun _ => 0))), ((mm 9), .inl (k 0, 4, .inl (fun _ => 0)))] H := hP
          have hD : va_D A [((mm 0), .inr (7, [.int 0, .ref (mm 1), .ref (mm 2), .ref (mm 3), .ref (mm 4), .ref (mm 5), .int 0, .int 0, .int 0, .int 0, .int 0, .int 0, .int 0, .int 0, .int 0, .int (-1), .int 0, .ref (mm 6), .int 0, .ref (mm 7), .ref (mm 8), .ref (mm 9), .int (-1), .ref (mm 10), .ref (mm 11), .int 0, .int 0, .ref (mm 12), .ref (mm 13), .int 0, .ref (mm 14), .ref (mm 15), .ref (mm 16)])), ((mm 1), .inl (k 0, 1227, .inl f)), ((mm 2), .inl (k 0, 409, .inl (fun _ => 0))), ((mm 6), .inl (k 0, 2454, .inl (fun _ => 0))), ((mm 8), .inl (k 0, 4, .inl (fun _ => 0))), ((mm 9), .inl (k 0, 4, .inl (fun _ => 0)))] := hD
          refine lv_aload_n hx hb dX8_dry_59 rfl (lv_at hl 0 rfl) ?_
          refine lv_iconst (v := 0) hx hb dX8_dry_60 (by decide) ?_
          refine lv_iload_n hx hb dX8_dry_61 rfl (lv_at hl 1 rfl) ?_
          refine lv_ni (v := 3) (qc_46) ?_
          refine lv_iconst (v := 0) hx hb dX8_dry_62 (by decide) ?_
          refine kV_uv (q0 := 0) (As := [.int 0, .int 3, .int 0]) (rest := []) (wc := [((mm 0), .inr (7, [.int 0, .ref (mm 1), .ref (mm 2), .ref (mm 3), .ref (mm 4), .ref (mm 5), .int 0, .int 0, .int 0, .int 0, .int 0, .int 0, .int 0, .int 0, .int 0, .int (-1), .int 0, .ref (mm 6), .int 0, .ref (mm 7), .ref (mm 8), .ref (mm 9), .int (-1), .ref (mm 10), .ref (mm 11), .int 0, .int 0, .ref (mm 12), .ref (mm 13), .int 0, .ref (mm 14), .ref (mm 15), .ref (mm 16)])), ((mm 1), .inl (k 0, 1227, .inl f)), ((mm 2), .inl (k 0, 409, .inl (fun _ => 0))), ((mm 6), .inl (k 0, 2454, .inl (fun _ => 0))), ((mm 8), .inl (k 0, 4, .inl (fun _ => 0))), ((mm 9), .inl (k 0, 4, .inl (fun _ => 0)))]) (wr := []) ⟨hx, hb, hml, hown, hts⟩ (c_M_keepsDry3_0 l D k _ f (fun _ => 0) (fun _ => 0) _ hf0 rfl KZ_0) (gV mw_806 mw_807 mw_808 mw_5 mw_809) hd_yX8_keepsDry rfl rfl ⟨Nat.le_of_ble_eq_true rfl, Nat.le_of_ble_eq_true rfl⟩ hK hP hD hS hA [0, 1, 2, 3, 4, 5] [] rfl rfl (by decide) (by decide) (by decide) rfl rfl rfl rfl hl.1 rfl (Nat.le_of_ble_eq_true rfl) dX8_dry_63 ⟨Nat.le_of_ble_eq_true rfl, Nat.le_of_ble_eq_true rfl⟩ (fun u_73 H locs hw hP hD hS => ?_)
          obtain ⟨v_74, v_75, v_76⟩ := u_73
          obtain ⟨h_77, h_78, h_79⟩ := hw
          have h_77 : v_74 0 = 0 := h_77
          have h_78 : v_75 0 = 0 := h_78
          have h_79 : KZ v_76 := h_79
          have hP : va_P D vwCl [((mm 0), .inr (7, [.int 0, .ref (mm 1), .ref (mm 2), .ref (mm 3), .ref (mm 4), .ref (mm 5), .int 0, .int 0, .int 0, .int 0, .int 0, .int 0, .int 0, .int 0, .int 0, .int (-1), .int 0, .ref (mm 6), .int 0, .ref (mm 7), .ref (mm 8), .ref (mm 9), .int 0, .ref (mm 10), .ref (mm 11), .int 0, .int 0, .ref (mm 12), .ref (mm 13), .int 0, .ref (mm 14), .ref (mm 15), .ref (mm 16)])), ((mm 1), .inl (k 0, 1227, .inl v_74)), ((mm 2), .inl (k 0, 409, .inl v_75)), ((mm 6), .inl (k 0, 2454, .inl v_76)), ((mm 8), .inl (k 0, 4, .inl (fun _ => 0))), ((mm 9), .inl (k 0, 4, .inl (fun _ => 0)))] H := hP
          have hD : va_D A [((mm 0), .inr (7, [.int 0, .ref (mm 1), .ref (mm 2), .ref (mm 3), .ref (mm 4), .ref (mm 5), .int 0, .int 0, .int 0, .int 0, .int 0, .int 0, .int 0, .int 0, .int 0, .int (-1), .int 0, .ref (mm 6), .int 0, .ref (mm 7), .ref (mm 8), .ref (mm 9), .int 0, .ref (mm 10), .ref (mm 11), .int 0, .int 0, .ref (mm 12), .ref (mm 13), .int 0, .ref (mm 14), .ref (mm 15), .ref (mm 16)])), ((mm 1), .inl (k 0, 1227, .inl v_74)), ((mm 2), .inl (k 0, 409, .inl v_75)), ((mm 6), .inl (k 0, 2454, .inl v_76)), ((mm 8), .inl (k 0, 4, .inl (fun _ => 0))), ((mm 9), .inl (k 0, 4, .inl (fun _ => 0)))] := hD
          refine lv_aload_n hx hb dX8_dry_66 rfl (lv_at hl 0 rfl) ?_
          refine va_get (D := D) (ci := 7) (v := .int 0) (C := RX8) (T := TX8) (N := 33) hx hb hts inlX8 hown hK hP 0 rfl rfl 22 (by decide) (hts _ mw_805) (fun _ h9 => h9) rfl dX8_dry_67 ?_
          refine lv_iconst (v := (-1)) hx hb dX8_dry_70 (by decide) ?_
          refine lv_icmp_eq (tgt := 78) hx hb dX8_dry_71 (by decide) (fun c9 => absurd c9 (by decide)) (fun _ => ?_)
          refine lv_iload_n hx hb dX8_dry_74 rfl (lv_at hl 2 rfl) ?_
          refine lv_if_ne (tgt := 83) hx hb dX8_dry_75 (by decide) (fun c_80 => ?_) (fun c_80 => by have q := ti_eq c_80; have q : x.toInt = 0 := q; exfalso; omega)
          have c_80 : x.toInt ≠ 0 := ti_ne c_80
          refine lv_iload_n hx hb dX8_dry_83 rfl (lv_at hl 2 rfl) ?_
          refine lv_bipush (v := 10) hx hb dX8_dry_84 (by decide) ?_
          refine lv_isub hx hb dX8_dry_86 ?_
          refine lv_topi (fun z_81 ez_81 => ?_)
          have tz_81 : z_81.toInt = x.toInt - 10 := by rw [ez_81]; exact ti_subc (by decide) (by omega) (by omega)
          refine lv_iload_n hx hb dX8_dry_87 rfl (lv_at hl 1 rfl) ?_
          refine lv_ni (v := 3) (qc_46) ?_
          refine lv_icmp_ge (tgt := 103) hx hb dX8_dry_88 (by decide) (fun c_82 => ?_) (fun c_82 => ?_)
          · have c_82 : 3 ≤ z_81.toInt := ti_le c_82
            have qc_82 : z_81 = 3 := ti_of (show z_81.toInt = 3 from by omega)
            refine lv_iconst (v := (-1)) hx hb dX8_dry_103 (by decide) ?_
            have hP9 := hP.sub (ws' := []) [] rfl
            have hD9 := hD.sub (ws' := []) [] (by decide) rfl
            exact W.iret (v := (-1)) hx hb hr (fun t ht hW => ⟨⟨(-1), (), rfl, (by (repeat' split) <;> first | rfl | (exfalso; omega)), by rw [ht]; exact hP9, hD9⟩, hS.F ht⟩) hS.2.2 dX8_dry_104
          · have c_82 : z_81.toInt < 3 := ti_nle c_82
            refine lv_aload_n hx hb dX8_dry_91 rfl (lv_at hl 0 rfl) ?_
            refine va_get (D := D) (ci := 7) (v := .ref (mm 9)) (C := RX8) (T := TX8) (N := 33) hx hb hts inlX8 hown hK hP 0 rfl rfl 21 (by decide) (hts _ mw_100) (fun _ h9 => h9) rfl dX8_dry_92 ?_
            refine lv_iload_n hx hb dX8_dry_95 rfl (lv_at hl 2 rfl) ?_
            refine lv_bipush (v := 10) hx hb dX8_dry_96 (by decide) ?_
            refine lv_isub hx hb dX8_dry_98 ?_
            refine lv_topi (fun z_83 ez_83 => ?_)
            have tz_83 : z_83.toInt = x.toInt - 10 := by rw [ez_83]; exact ti_subc (by decide) (by omega) (by omega)
            refine va_iald hx hb hK hP 5 0 rfl rfl (vp_in_o (by omega) (by omega)) dX8_dry_99 ?_
            refine lv_ni (v := 0) (rfl) ?_
            refine lv_goto (tgt := 104) hx hb dX8_dry_100 (by decide) ?_
            have hP9 := hP.sub (ws' := []) [] rfl
            have hD9 := hD.sub (ws' := []) [] (by decide) rfl
            exact W.iret (v := 0) hx hb hr (fun t ht hW => ⟨⟨0, (), rfl, (by (repeat' split) <;> first | rfl | (exfalso; omega)), by rw [ht]; exact hP9, hD9⟩, hS.F ht⟩) hS.2.2 dX8_dry_104
        · have qc_47 : a = 4 := ti_of (show a.toInt = 4 from c_47)
          refine lv_aload_n hx hb dX8_dry_54 rfl (lv_at hl 0 rfl) ?_
          refine lv_iconst (v := (-1)) hx hb dX8_dry_55 (by decide) ?_
          refine va_put (D := D) (ci := 7) (v := .int (-1)) (ty := .int) (C := RX8) (T := TX8) (N := 33) hx hb hts inlX8 tyX8 tyX8_ok nmX8 hown hK hP hD hS 0 rfl rfl 22 (by decide) (hts _ mw_805) (fun _ h9 => h9) rfl (by decide +kernel) rfl rfl (Nat.le_of_ble_eq_true rfl) dX8_dry_56 (fun H locs hP hD hS => ?_)
          have hP : va_P D vwCl [((mm 0), .inr (7, [.int 0, .ref (mm 1), .ref (mm 2), .ref (mm 3), .ref (mm 4), .ref (mm 5), .int 0, .int 0, .int 0, .int 0, .int 0, .int 0, .int 0, .int 0, .int 0, .int (-1), .int 0, .ref (mm 6), .int 0, .ref (mm 7), .ref (mm 8), .ref (mm 9), .int (-1), .ref (mm 10), .ref (mm 11), .int 0, .int 0, .ref (mm 12), .ref (mm 13), .int 0, .ref (mm 14), .ref (mm 15), .ref (mm 16)])), ((mm 1), .inl (k 0, 1227, .inl f)), ((mm 2), .inl (k 0, 409, .inl (fun _ => 0))), ((mm 6), .inl (k 0, 2454, .inl (fun _ => 0))), ((mm 8), .inl (k 0, 4, .inl (fun _ => 0))), ((mm 9), .inl (k 0, 4, .inl (fun _ => 0)))] H := hP
          have hD : va_D A [((mm 0), .inr (7, [.int 0, .ref (mm 1), .ref (mm 2), .ref (mm 3), .ref (mm 4), .ref (mm 5), .int 0, .int 0, .int 0, .int 0, .int 0, .int 0, .int 0, .int 0, .int 0, .int (-1), .int 0, .ref (mm 6), .int 0, .ref (mm 7), .ref (mm 8), .ref (mm 9), .int (-1), .ref (mm 10), .ref (mm 11), .int 0, .int 0, .ref (mm 12), .ref (mm 13), .int 0, .ref (mm 14), .ref (mm 15), .ref (mm 16)])), ((mm 1), .inl (k 0, 1227, .inl f)), ((mm 2), .inl (k 0, 409, .inl (fun _ => 0))), ((mm 6), .inl (k 0, 2454, .inl (fun _ => 0))), ((mm 8), .inl (k 0, 4, .inl (fun _ => 0))), ((mm 9), .inl (k 0, 4, .inl (fun _ => 0)))] := hD
          refine lv_aload_n hx hb dX8_dry_59 rfl (lv_at hl 0 rfl) ?_
          refine lv_iconst (v := 0) hx hb dX8_dry_60 (by decide) ?_
          refine lv_iload_n hx hb dX8_dry_61 rfl (lv_at hl 1 rfl) ?_
          refine lv_ni (v := 4) (qc_47) ?_
          refine lv_iconst (v := 0) hx hb dX8_dry_62 (by decide) ?_
          refine kV_uv (q0 := 0) (As := [.int 0, .int 4, .int 0]) (rest := []) (wc := [((mm 0), .inr (7, [.int 0, .ref (mm 1), .ref (mm 2), .ref (mm 3), .ref (mm 4), .ref (mm 5), .int 0, .int 0, .int 0, .int 0, .int 0, .int 0, .int 0, .int 0, .int 0, .int (-1), .int 0, .ref (mm 6), .int 0, .ref (mm 7), .ref (mm 8), .ref (mm 9), .int (-1), .ref (mm 10), .ref (mm 11), .int 0, .int 0, .ref (mm 12), .ref (mm 13), .int 0, .ref (mm 14), .ref (mm 15), .ref (mm 16)])), ((mm 1), .inl (k 0, 1227, .inl f)), ((mm 2), .inl (k 0, 409, .inl (fun _ => 0))), ((mm 6), .inl (k 0, 2454, .inl (fun _ => 0))), ((mm 8), .inl (k 0, 4, .inl (fun _ => 0))), ((mm 9), .inl (k 0, 4, .inl (fun _ => 0)))]) (wr := []) ⟨hx, hb, hml, hown, hts⟩ (c_M_keepsDry4_0 l D k _ f (fun _ => 0) (fun _ => 0) _ hf0 rfl KZ_0) (gV mw_806 mw_807 mw_808 mw_5 mw_809) hd_yX8_keepsDry rfl rfl ⟨Nat.le_of_ble_eq_true rfl, Nat.le_of_ble_eq_true rfl⟩ hK hP hD hS hA [0, 1, 2, 3, 4, 5] [] rfl rfl (by decide) (by decide) (by decide) rfl rfl rfl rfl hl.1 rfl (Nat.le_of_ble_eq_true rfl) dX8_dry_63 ⟨Nat.le_of_ble_eq_true rfl, Nat.le_of_ble_eq_true rfl⟩ (fun u_85 H locs hw hP hD hS => ?_)
          obtain ⟨v_86, v_87, v_88⟩ := u_85
          obtain ⟨h_89, h_90, h_91⟩ := hw
          have h_89 : v_86 0 = 0 := h_89
          have h_90 : v_87 0 = 0 := h_90
          have h_91 : KZ v_88 := h_91
          have hP : va_P D vwCl [((mm 0), .inr (7, [.int 0, .ref (mm 1), .ref (mm 2), .ref (mm 3), .ref (mm 4), .ref (mm 5), .int 0, .int 0, .int 0, .int 0, .int 0, .int 0, .int 0, .int 0, .int 0, .int (-1), .int 0, .ref (mm 6), .int 0, .ref (mm 7), .ref (mm 8), .ref (mm 9), .int 0, .ref (mm 10), .ref (mm 11), .int 0, .int 0, .ref (mm 12), .ref (mm 13), .int 0, .ref (mm 14), .ref (mm 15), .ref (mm 16)])), ((mm 1), .inl (k 0, 1227, .inl v_86)), ((mm 2), .inl (k 0, 409, .inl v_87)), ((mm 6), .inl (k 0, 2454, .inl v_88)), ((mm 8), .inl (k 0, 4, .inl (fun _ => 0))), ((mm 9), .inl (k 0, 4, .inl (fun _ => 0)))] H := hP
          have hD : va_D A [((mm 0), .inr (7, [.int 0, .ref (mm 1), .ref (mm 2), .ref (mm 3), .ref (mm 4), .ref (mm 5), .int 0, .int 0, .int 0, .int 0, .int 0, .int 0, .int 0, .int 0, .int 0, .int (-1), .int 0, .ref (mm 6), .int 0, .ref (mm 7), .ref (mm 8), .ref (mm 9), .int 0, .ref (mm 10), .ref (mm 11), .int 0, .int 0, .ref (mm 12), .ref (mm 13), .int 0, .ref (mm 14), .ref (mm 15), .ref (mm 16)])), ((mm 1), .inl (k 0, 1227, .inl v_86)), ((mm 2), .inl (k 0, 409, .inl v_87)), ((mm 6), .inl (k 0, 2454, .inl v_88)), ((mm 8), .inl (k 0, 4, .inl (fun _ => 0))), ((mm 9), .inl (k 0, 4, .inl (fun _ => 0)))] := hD
          refine lv_aload_n hx hb dX8_dry_66 rfl (lv_at hl 0 rfl) ?_
          refine va_get (D := D) (ci := 7) (v := .int 0) (C := RX8) (T := TX8) (N := 33) hx hb hts inlX8 hown hK hP 0 rfl rfl 22 (by decide) (hts _ mw_805) (fun _ h9 => h9) rfl dX8_dry_67 ?_
          refine lv_iconst (v := (-1)) hx hb dX8_dry_70 (by decide) ?_
          refine lv_icmp_eq (tgt := 78) hx hb dX8_dry_71 (by decide) (fun c9 => absurd c9 (by decide)) (fun _ => ?_)
          refine lv_iload_n hx hb dX8_dry_74 rfl (lv_at hl 2 rfl) ?_
          refine lv_if_ne (tgt := 83) hx hb dX8_dry_75 (by decide) (fun c_92 => ?_) (fun c_92 => by have q := ti_eq c_92; have q : x.toInt = 0 := q; exfalso; omega)
          have c_92 : x.toInt ≠ 0 := ti_ne c_92
          refine lv_iload_n hx hb dX8_dry_83 rfl (lv_at hl 2 rfl) ?_
          refine lv_bipush (v := 10) hx hb dX8_dry_84 (by decide) ?_
          refine lv_isub hx hb dX8_dry_86 ?_
          refine lv_topi (fun z_93 ez_93 => ?_)
          have tz_93 : z_93.toInt = x.toInt - 10 := by rw [ez_93]; exact ti_subc (by decide) (by omega) (by omega)
          refine lv_iload_n hx hb dX8_dry_87 rfl (lv_at hl 1 rfl) ?_
          refine lv_ni (v := 4) (qc_47) ?_
          refine lv_icmp_ge (tgt := 103) hx hb dX8_dry_88 (by decide) (fun c_94 => by have q := ti_le c_94; have q : 4 ≤ z_93.toInt := q; exfalso; omega) (fun c_94 => ?_)
          have c_94 : z_93.toInt < 4 := ti_nle c_94
          refine lv_aload_n hx hb dX8_dry_91 rfl (lv_at hl 0 rfl) ?_
          refine va_get (D := D) (ci := 7) (v := .ref (mm 9)) (C := RX8) (T := TX8) (N := 33) hx hb hts inlX8 hown hK hP 0 rfl rfl 21 (by decide) (hts _ mw_100) (fun _ h9 => h9) rfl dX8_dry_92 ?_
          refine lv_iload_n hx hb dX8_dry_95 rfl (lv_at hl 2 rfl) ?_
          refine lv_bipush (v := 10) hx hb dX8_dry_96 (by decide) ?_
          refine lv_isub hx hb dX8_dry_98 ?_
          refine lv_topi (fun z_95 ez_95 => ?_)
          have tz_95 : z_95.toInt = x.toInt - 10 := by rw [ez_95]; exact ti_subc (by decide) (by omega) (by omega)
          refine va_iald hx hb hK hP 5 0 rfl rfl (vp_in_o (by omega) (by omega)) dX8_dry_99 ?_
          refine lv_ni (v := 0) (rfl) ?_
          refine lv_goto (tgt := 104) hx hb dX8_dry_100 (by decide) ?_
          have hP9 := hP.sub (ws' := []) [] rfl
          have hD9 := hD.sub (ws' := []) [] (by decide) rfl
          exact W.iret (v := 0) hx hb hr (fun t ht hW => ⟨⟨0, (), rfl, (by (repeat' split) <;> first | rfl | (exfalso; omega)), by rw [ht]; exact hP9, hD9⟩, hS.F ht⟩) hS.2.2 dX8_dry_104
      have hr_42 := hr_42.trans (if_neg hc_43)
      obtain rfl : r_42 = 0 := hr_42
      refine lv_if_ne (tgt := 41) hx hb dX8_dry_35 (by decide) (fun c9 => absurd c9 (by decide)) (fun _ => ?_)
      refine lv_bipush (v := (-3)) hx hb dX8_dry_38 (by decide) ?_
      have hP9 := hP.sub (ws' := []) [] rfl
      have hD9 := hD.sub (ws' := []) [] (by decide) rfl
      exact W.iret (v := (-3)) hx hb hr (fun t ht hW => ⟨⟨(-3), (), rfl, (by (repeat' split) <;> first | rfl | (exfalso; omega)), by rw [ht]; exact hP9, hD9⟩, hS.F ht⟩) hS.2.2 dX8_dry_40
    have hr_40 := hr_40.trans (if_neg hc_41)
    obtain rfl : r_40 = 0 := hr_40
    refine lv_if_ne (tgt := 26) hx hb dX8_dry_20 (by decide) (fun c9 => absurd c9 (by decide)) (fun _ => ?_)
    refine lv_bipush (v := (-2)) hx hb dX8_dry_23 (by decide) ?_
    have hP9 := hP.sub (ws' := []) [] rfl
    have hD9 := hD.sub (ws' := []) [] (by decide) rfl
    exact W.iret (v := (-2)) hx hb hr (fun t ht hW => ⟨⟨(-2), (), rfl, (by (repeat' split) <;> first | rfl | (exfalso; omega)), by rw [ht]; exact hP9, hD9⟩, hS.F ht⟩) hS.2.2 dX8_dry_25
set_option maxHeartbeats 4000000 in
set_option maxRecDepth 100000 in
theorem c_M_miceIn (l : Launch) (D : va_G) (k : Nat → ClassId) (mm : Nat → Nat) (f : Nat → Int32) (a : Int32) (sz : Nat) (hf0 : f 0 = 0) : Met l yX8_miceIn (Cond.code yX8_miceIn cX8_miceIn 2 (some .int) :: wsL_law) ({ frames := 2, cells := 0, slots := 0, locals := 120 } : Room) (va_Pc [.ref (mm 0), .int a] (pu D k sz [((mm 0), .inr (7, [.int 0, .ref (mm 1), .ref (mm 2), .ref (mm 3), .ref (mm 4), .ref (mm 5), .int 0, .int 0, .int 0, .int 0, .int 0, .int 0, .int 0, .int 0, .int 0, .int (-1), .int 0, .ref (mm 6), .int 0, .ref (mm 7), .ref (mm 8), .ref (mm 9), .int 0, .ref (mm 10), .ref (mm 11), .int 0, .int 0, .ref (mm 12), .ref (mm 13), .int 0, .ref (mm 14), .ref (mm 15), .ref (mm 16)])), ((mm 1), .inl (k 0, 1227, .inl f)), ((mm 2), .inl (k 0, 409, .inl (fun _ => 0))), ((mm 6), .inl (k 0, 2454, .inl (fun _ => 0)))])) (va_Qi (fun rr (uu : Unit) => rr = if 0 ≤ a.toInt ∧ a.toInt ≤ 30 then 0 else (-3)) (qu D (va_A [((mm 0), .inr (7, [.int 0, .ref (mm 1), .ref (mm 2), .ref (mm 3), .ref (mm 4), .ref (mm 5), .int 0, .int 0, .int 0, .int 0, .int 0, .int 0, .int 0, .int 0, .int 0, .int (-1), .int 0, .ref (mm 6), .int 0, .ref (mm 7), .ref (mm 8), .ref (mm 9), .int 0, .ref (mm 10), .ref (mm 11), .int 0, .int 0, .ref (mm 12), .ref (mm 13), .int 0, .ref (mm 14), .ref (mm 15), .ref (mm 16)])), ((mm 1), .inl (k 0, 1227, .inl f)), ((mm 2), .inl (k 0, 409, .inl (fun _ => 0))), ((mm 6), .inl (k 0, 2454, .inl (fun _ => 0)))] sz) (fun uu : Unit => [])) (va_A [((mm 0), .inr (7, [.int 0, .ref (mm 1), .ref (mm 2), .ref (mm 3), .ref (mm 4), .ref (mm 5), .int 0, .int 0, .int 0, .int 0, .int 0, .int 0, .int 0, .int 0, .int 0, .int (-1), .int 0, .ref (mm 6), .int 0, .ref (mm 7), .ref (mm 8), .ref (mm 9), .int 0, .ref (mm 10), .ref (mm 11), .int 0, .int 0, .ref (mm 12), .ref (mm 13), .int 0, .ref (mm 14), .ref (mm 15), .ref (mm 16)])), ((mm 1), .inl (k 0, 1227, .inl f)), ((mm 2), .inl (k 0, 409, .inl (fun _ => 0))), ((mm 6), .inl (k 0, 2454, .inl (fun _ => 0)))] sz)) 0 0 (va_A [((mm 0), .inr (7, [.int 0, .ref (mm 1), .ref (mm 2), .ref (mm 3), .ref (mm 4), .ref (mm 5), .int 0, .int 0, .int 0, .int 0, .int 0, .int 0, .int 0, .int 0, .int 0, .int (-1), .int 0, .ref (mm 6), .int 0, .ref (mm 7), .ref (mm 8), .ref (mm 9), .int 0, .ref (mm 10), .ref (mm 11), .int 0, .int 0, .ref (mm 12), .ref (mm 13), .int 0, .ref (mm 14), .ref (mm 15), .ref (mm 16)])), ((mm 1), .inl (k 0, 1227, .inl f)), ((mm 2), .inl (k 0, 409, .inl (fun _ => 0))), ((mm 6), .inl (k 0, 2454, .inl (fun _ => 0)))] sz) := by
  refine Met.ofW (cc := cX8_miceIn) (maxL := 2) (ret := (some .int)) (by decide) rfl ?_
  intro p e s m args below meth c s₁ B hml hv
  obtain ⟨rfl, hsz, hP, hK, hD0⟩ := hv
  have hx := B.exec
  have hb := B.bytes
  have hr := B.returns
  have hts : ∀ w ∈ wsL_law, w.before _ s = true := fun w h => atoms_spec (ws := Cond.code yX8_miceIn cX8_miceIn 2 (some .int) :: wsL_law) B.pre w (List.mem_cons_of_mem _ h)
  have hown : s.vm.findClass RX8 = some m.cls := findClass_of_methodNamed B.named
  have hlocks := B.notSynchronized
  subst hsz
  have hD := hD0.self (sz := s.heap.size)
  generalize hAe : va_A [((mm 0), .inr (7, [.int 0, .ref (mm 1), .ref (mm 2), .ref (mm 3), .ref (mm 4), .ref (mm 5), .int 0, .int 0, .int 0, .int 0, .int 0, .int 0, .int 0, .int 0, .int 0, .int (-1), .int 0, .ref (mm 6), .int 0, .ref (mm 7), .ref (mm 8), .ref (mm 9), .int 0, .ref (mm 10), .ref (mm 11), .int 0, .int 0, .ref (mm 12), .ref (mm 13), .int 0, .ref (mm 14), .ref (mm 15), .ref (mm 16)])), ((mm 1), .inl (k 0, 1227, .inl f)), ((mm 2), .inl (k 0, 409, .inl (fun _ => 0))), ((mm 6), .inl (k 0, 2454, .inl (fun _ => 0)))] s.heap.size = A at hD ⊢
  have hA : ∀ q : Nat, s.heap.size ≤ q → A q := fun q h => by rw [← hAe]; exact Or.inr h
  have hS : va_S A s.heap s.heap [] := va_S.rf
  have hP : va_P D vwCl [((mm 0), .inr (7, [.int 0, .ref (mm 1), .ref (mm 2), .ref (mm 3), .ref (mm 4), .ref (mm 5), .int 0, .int 0, .int 0, .int 0, .int 0, .int 0, .int 0, .int 0, .int 0, .int (-1), .int 0, .ref (mm 6), .int 0, .ref (mm 7), .ref (mm 8), .ref (mm 9), .int 0, .ref (mm 10), .ref (mm 11), .int 0, .int 0, .ref (mm 12), .ref (mm 13), .int 0, .ref (mm 14), .ref (mm 15), .ref (mm 16)])), ((mm 1), .inl (k 0, 1227, .inl f)), ((mm 2), .inl (k 0, 409, .inl (fun _ => 0))), ((mm 6), .inl (k 0, 2454, .inl (fun _ => 0)))] s.heap := hP
  have hl := lv_entry ([.ref (mm 0), .int a]) (n := 2) (Nat.le_of_ble_eq_true rfl)
  rw [lg_entry_eq]
  generalize (lg_sl ([.ref (mm 0), .int a]) ++ List.replicate (2 - (lg_sl ([.ref (mm 0), .int a])).length) Slot.unset).toArray = ls at hl ⊢
  have hl : lv_has ls 2 [(0, .ref (mm 0)), (1, .int a)] := hl
  refine lv_aload_n hx hb dX8_miceIn_0 rfl (lv_at hl 0 rfl) ?_
  refine lv_iconst (v := 0) hx hb dX8_miceIn_1 (by decide) ?_
  refine va_put (D := D) (ci := 7) (v := .int 0) (ty := .int) (C := RX8) (T := TX8) (N := 33) hx hb hts inlX8 tyX8 tyX8_ok nmX8 hown hK hP hD hS 0 rfl rfl 0 (by decide) (hts _ mw_125) (fun _ h9 => h9) rfl (by decide +kernel) rfl rfl (Nat.le_of_ble_eq_true rfl) dX8_miceIn_2 (fun H locs hP hD hS => ?_)
  have hP : va_P D vwCl [((mm 0), .inr (7, [.int 0, .ref (mm 1), .ref (mm 2), .ref (mm 3), .ref (mm 4), .ref (mm 5), .int 0, .int 0, .int 0, .int 0, .int 0, .int 0, .int 0, .int 0, .int 0, .int (-1), .int 0, .ref (mm 6), .int 0, .ref (mm 7), .ref (mm 8), .ref (mm 9), .int 0, .ref (mm 10), .ref (mm 11), .int 0, .int 0, .ref (mm 12), .ref (mm 13), .int 0, .ref (mm 14), .ref (mm 15), .ref (mm 16)])), ((mm 1), .inl (k 0, 1227, .inl f)), ((mm 2), .inl (k 0, 409, .inl (fun _ => 0))), ((mm 6), .inl (k 0, 2454, .inl (fun _ => 0)))] H := hP
  have hD : va_D A [((mm 0), .inr (7, [.int 0, .ref (mm 1), .ref (mm 2), .ref (mm 3), .ref (mm 4), .ref (mm 5), .int 0, .int 0, .int 0, .int 0, .int 0, .int 0, .int 0, .int 0, .int 0, .int (-1), .int 0, .ref (mm 6), .int 0, .ref (mm 7), .ref (mm 8), .ref (mm 9), .int 0, .ref (mm 10), .ref (mm 11), .int 0, .int 0, .ref (mm 12), .ref (mm 13), .int 0, .ref (mm 14), .ref (mm 15), .ref (mm 16)])), ((mm 1), .inl (k 0, 1227, .inl f)), ((mm 2), .inl (k 0, 409, .inl (fun _ => 0))), ((mm 6), .inl (k 0, 2454, .inl (fun _ => 0)))] := hD
  refine lv_iload_n hx hb dX8_miceIn_5 rfl (lv_at hl 1 rfl) ?_
  refine lv_i2l (v := a.toInt64) hx hb dX8_miceIn_6 rfl ?_
  refine lv_lconst (v := 0) hx hb dX8_miceIn_7 (by decide) ?_
  refine lv_ldc2 (own := RX8) (index := 234) (v := 30) hx hb hown (hts _ mw_631) dX8_miceIn_8 ?_
  refine kS_i (As := [.long a.toInt64, .long 0, .long 30]) (rest := []) (cs := []) ⟨hx, hb, hml, hown, hts⟩ (c_M_within l D k a 0 30) (gS mw_294 mw_295 mw_5 mw_296) hd_yX8_within rfl rfl ⟨Nat.le_of_ble_eq_true rfl, Nat.le_of_ble_eq_true rfl⟩ hK (hP.sub (ws' := []) [] rfl) rfl hl.1 rfl (Nat.le_of_ble_eq_true rfl) dX8_miceIn_11 ⟨Nat.le_of_ble_eq_true rfl, Nat.le_of_ble_eq_true rfl⟩ (fun r_1 hr_1 => ?_)
  by_cases hc_2 : 0 ≤ a.toInt ∧ a.toInt ≤ 30
  · obtain rfl : r_1 = 1 := hr_1.trans (if_pos hc_2)
    refine lv_if_eq (tgt := 25) hx hb dX8_miceIn_14 (by decide) (fun c9 => absurd c9 (by decide)) (fun _ => ?_)
    refine lv_aload_n hx hb dX8_miceIn_17 rfl (lv_at hl 0 rfl) ?_
    refine lv_iload_n hx hb dX8_miceIn_18 rfl (lv_at hl 1 rfl) ?_
    refine kV_ui (q0 := 0) (As := [.int a]) (rest := []) (wc := [((mm 0), .inr (7, [.int 0, .ref (mm 1), .ref (mm 2), .ref (mm 3), .ref (mm 4), .ref (mm 5), .int 0, .int 0, .int 0, .int 0, .int 0, .int 0, .int 0, .int 0, .int 0, .int (-1), .int 0, .ref (mm 6), .int 0, .ref (mm 7), .ref (mm 8), .ref (mm 9), .int 0, .ref (mm 10), .ref (mm 11), .int 0, .int 0, .ref (mm 12), .ref (mm 13), .int 0, .ref (mm 14), .ref (mm 15), .ref (mm 16)])), ((mm 1), .inl (k 0, 1227, .inl f)), ((mm 2), .inl (k 0, 409, .inl (fun _ => 0))), ((mm 6), .inl (k 0, 2454, .inl (fun _ => 0)))]) (wr := []) ⟨hx, hb, hml, hown, hts⟩ (c_M_miceBehind l D k _ 0 f (fun _ => 0) (fun _ => 0) a _ hf0 rfl KZ_0 (by omega)) (gV mw_843 mw_844 mw_845 mw_5 mw_846) hd_yX8_miceBehind rfl rfl ⟨Nat.le_of_ble_eq_true rfl, Nat.le_of_ble_eq_true rfl⟩ hK hP hD hS hA [0, 1, 2, 3] [] rfl rfl (by decide) (by decide) (by decide) rfl rfl rfl rfl hl.1 rfl (Nat.le_of_ble_eq_true rfl) dX8_miceIn_19 ⟨Nat.le_of_ble_eq_true rfl, Nat.le_of_ble_eq_true rfl⟩ (fun r_3 u_4 H locs hw hP hD hS => ?_)
    obtain ⟨v_5, v_6, v_7⟩ := u_4
    obtain ⟨hr_3, h_8, h_9, h_10⟩ := hw
    have h_8 : v_5 0 = 0 := h_8
    have h_9 : v_6 0 = 0 := h_9
    have h_10 : KZ v_7 := h_10
    have hP : va_P D vwCl [((mm 0), .inr (7, [.int 0, .ref (mm 1), .ref (mm 2), .ref (mm 3), .ref (mm 4), .ref (mm 5), .int 0, .int 0, .int 0, .int 0, .int 0, .int 0, .int 0, .int 0, .int 0, .int (-1), .int 0, .ref (mm 6), .int 0, .ref (mm 7), .ref (mm 8), .ref (mm 9), .int 0, .ref (mm 10), .ref (mm 11), .int 0, .int 0, .ref (mm 12), .ref (mm 13), .int 0, .ref (mm 14), .ref (mm 15), .ref (mm 16)])), ((mm 1), .inl (k 0, 1227, .inl v_5)), ((mm 2), .inl (k 0, 409, .inl v_6)), ((mm 6), .inl (k 0, 2454, .inl v_7))] H := hP
    have hD : va_D A [((mm 0), .inr (7, [.int 0, .ref (mm 1), .ref (mm 2), .ref (mm 3), .ref (mm 4), .ref (mm 5), .int 0, .int 0, .int 0, .int 0, .int 0, .int 0, .int 0, .int 0, .int 0, .int (-1), .int 0, .ref (mm 6), .int 0, .ref (mm 7), .ref (mm 8), .ref (mm 9), .int 0, .ref (mm 10), .ref (mm 11), .int 0, .int 0, .ref (mm 12), .ref (mm 13), .int 0, .ref (mm 14), .ref (mm 15), .ref (mm 16)])), ((mm 1), .inl (k 0, 1227, .inl v_5)), ((mm 2), .inl (k 0, 409, .inl v_6)), ((mm 6), .inl (k 0, 2454, .inl v_7))] := hD
    obtain rfl : r_3 = 0 := hr_3
    refine lv_goto (tgt := 27) hx hb dX8_miceIn_22 (by decide) ?_
    have hP9 := hP.sub (ws' := []) [] rfl
    have hD9 := hD.sub (ws' := []) [] (by decide) rfl
    exact W.iret (v := 0) hx hb hr (fun t ht hW => ⟨⟨0, (), rfl, (by (repeat' split) <;> first | rfl | (exfalso; omega)), by rw [ht]; exact hP9, hD9⟩, hS.F ht⟩) hS.2.2 dX8_miceIn_27
  have hr_1 := hr_1.trans (if_neg hc_2)
  obtain rfl : r_1 = 0 := hr_1
  refine lv_if_eq (tgt := 25) hx hb dX8_miceIn_14 (by decide) (fun _ => ?_) (fun c9 => absurd c9 (by decide))
  refine lv_bipush (v := (-3)) hx hb dX8_miceIn_25 (by decide) ?_
  have hP9 := hP.sub (ws' := []) [] rfl
  have hD9 := hD.sub (ws' := []) [] (by decide) rfl
  exact W.iret (v := (-3)) hx hb hr (fun t ht hW => ⟨⟨(-3), (), rfl, (by (repeat' split) <;> first | rfl | (exfalso; omega)), by rw [ht]; exact hP9, hD9⟩, hS.F ht⟩) hS.2.2 dX8_miceIn_27
set_option maxHeartbeats 4000000 in
set_option maxRecDepth 100000 in
theorem c_M_cats (l : Launch) (D : va_G) (k : Nat → ClassId) (mm : Nat → Nat) (f : Nat → Int32) (a : Int32) (sz : Nat) (hf0 : f 0 = 0) : Met l yX8_cats (Cond.code yX8_cats cX8_cats 6 (some .int) :: wsL_law) ({ frames := 3, cells := 0, slots := 0, locals := 180 } : Room) (va_Pc [.ref (mm 0), .int a] (pu D k sz [((mm 0), .inr (7, [.int 0, .ref (mm 1), .ref (mm 2), .ref (mm 3), .ref (mm 4), .ref (mm 5), .int 0, .int 0, .int 0, .int 0, .int 0, .int 0, .int 0, .int 0, .int 0, .int (-1), .int 0, .ref (mm 6), .int 0, .ref (mm 7), .ref (mm 8), .ref (mm 9), .int 0, .ref (mm 10), .ref (mm 11), .int 0, .int 0, .ref (mm 12), .ref (mm 13), .int 0, .ref (mm 14), .ref (mm 15), .ref (mm 16)])), ((mm 1), .inl (k 0, 1227, .inl f)), ((mm 2), .inl (k 0, 409, .inl (fun _ => 0))), ((mm 6), .inl (k 0, 2454, .inl (fun _ => 0)))])) (va_Qi (fun rr (uu : Unit) => rr = if 1 ≤ a.toInt ∧ a.toInt ≤ 8 then 0 else (-3)) (qu D (va_A [((mm 0), .inr (7, [.int 0, .ref (mm 1), .ref (mm 2), .ref (mm 3), .ref (mm 4), .ref (mm 5), .int 0, .int 0, .int 0, .int 0, .int 0, .int 0, .int 0, .int 0, .int 0, .int (-1), .int 0, .ref (mm 6), .int 0, .ref (mm 7), .ref (mm 8), .ref (mm 9), .int 0, .ref (mm 10), .ref (mm 11), .int 0, .int 0, .ref (mm 12), .ref (mm 13), .int 0, .ref (mm 14), .ref (mm 15), .ref (mm 16)])), ((mm 1), .inl (k 0, 1227, .inl f)), ((mm 2), .inl (k 0, 409, .inl (fun _ => 0))), ((mm 6), .inl (k 0, 2454, .inl (fun _ => 0)))] sz) (fun uu : Unit => [])) (va_A [((mm 0), .inr (7, [.int 0, .ref (mm 1), .ref (mm 2), .ref (mm 3), .ref (mm 4), .ref (mm 5), .int 0, .int 0, .int 0, .int 0, .int 0, .int 0, .int 0, .int 0, .int 0, .int (-1), .int 0, .ref (mm 6), .int 0, .ref (mm 7), .ref (mm 8), .ref (mm 9), .int 0, .ref (mm 10), .ref (mm 11), .int 0, .int 0, .ref (mm 12), .ref (mm 13), .int 0, .ref (mm 14), .ref (mm 15), .ref (mm 16)])), ((mm 1), .inl (k 0, 1227, .inl f)), ((mm 2), .inl (k 0, 409, .inl (fun _ => 0))), ((mm 6), .inl (k 0, 2454, .inl (fun _ => 0)))] sz)) 0 0 (va_A [((mm 0), .inr (7, [.int 0, .ref (mm 1), .ref (mm 2), .ref (mm 3), .ref (mm 4), .ref (mm 5), .int 0, .int 0, .int 0, .int 0, .int 0, .int 0, .int 0, .int 0, .int 0, .int (-1), .int 0, .ref (mm 6), .int 0, .ref (mm 7), .ref (mm 8), .ref (mm 9), .int 0, .ref (mm 10), .ref (mm 11), .int 0, .int 0, .ref (mm 12), .ref (mm 13), .int 0, .ref (mm 14), .ref (mm 15), .ref (mm 16)])), ((mm 1), .inl (k 0, 1227, .inl f)), ((mm 2), .inl (k 0, 409, .inl (fun _ => 0))), ((mm 6), .inl (k 0, 2454, .inl (fun _ => 0)))] sz) := by
  refine Met.ofW (cc := cX8_cats) (maxL := 6) (ret := (some .int)) (by decide) rfl ?_
  intro p e s m args below meth c s₁ B hml hv
  obtain ⟨rfl, hsz, hP, hK, hD0⟩ := hv
  have hx := B.exec
  have hb := B.bytes
  have hr := B.returns
  have hts : ∀ w ∈ wsL_law, w.before _ s = true := fun w h => atoms_spec (ws := Cond.code yX8_cats cX8_cats 6 (some .int) :: wsL_law) B.pre w (List.mem_cons_of_mem _ h)
  have hown : s.vm.findClass RX8 = some m.cls := findClass_of_methodNamed B.named
  have hlocks := B.notSynchronized
  subst hsz
  have hD := hD0.self (sz := s.heap.size)
  generalize hAe : va_A [((mm 0), .inr (7, [.int 0, .ref (mm 1), .ref (mm 2), .ref (mm 3), .ref (mm 4), .ref (mm 5), .int 0, .int 0, .int 0, .int 0, .int 0, .int 0, .int 0, .int 0, .int 0, .int (-1), .int 0, .ref (mm 6), .int 0, .ref (mm 7), .ref (mm 8), .ref (mm 9), .int 0, .ref (mm 10), .ref (mm 11), .int 0, .int 0, .ref (mm 12), .ref (mm 13), .int 0, .ref (mm 14), .ref (mm 15), .ref (mm 16)])), ((mm 1), .inl (k 0, 1227, .inl f)), ((mm 2), .inl (k 0, 409, .inl (fun _ => 0))), ((mm 6), .inl (k 0, 2454, .inl (fun _ => 0)))] s.heap.size = A at hD ⊢
  have hA : ∀ q : Nat, s.heap.size ≤ q → A q := fun q h => by rw [← hAe]; exact Or.inr h
  have hS : va_S A s.heap s.heap [] := va_S.rf
  have hP : va_P D vwCl [((mm 0), .inr (7, [.int 0, .ref (mm 1), .ref (mm 2), .ref (mm 3), .ref (mm 4), .ref (mm 5), .int 0, .int 0, .int 0, .int 0, .int 0, .int 0, .int 0, .int 0, .int 0, .int (-1), .int 0, .ref (mm 6), .int 0, .ref (mm 7), .ref (mm 8), .ref (mm 9), .int 0, .ref (mm 10), .ref (mm 11), .int 0, .int 0, .ref (mm 12), .ref (mm 13), .int 0, .ref (mm 14), .ref (mm 15), .ref (mm 16)])), ((mm 1), .inl (k 0, 1227, .inl f)), ((mm 2), .inl (k 0, 409, .inl (fun _ => 0))), ((mm 6), .inl (k 0, 2454, .inl (fun _ => 0)))] s.heap := hP
  have hl := lv_entry ([.ref (mm 0), .int a]) (n := 6) (Nat.le_of_ble_eq_true rfl)
  rw [lg_entry_eq]
  generalize (lg_sl ([.ref (mm 0), .int a]) ++ List.replicate (6 - (lg_sl ([.ref (mm 0), .int a])).length) Slot.unset).toArray = ls at hl ⊢
  have hl : lv_has ls 6 [(0, .ref (mm 0)), (1, .int a)] := hl
  refine lv_aload_n hx hb dX8_cats_0 rfl (lv_at hl 0 rfl) ?_
  refine lv_iconst (v := 0) hx hb dX8_cats_1 (by decide) ?_
  refine va_put (D := D) (ci := 7) (v := .int 0) (ty := .int) (C := RX8) (T := TX8) (N := 33) hx hb hts inlX8 tyX8 tyX8_ok nmX8 hown hK hP hD hS 0 rfl rfl 0 (by decide) (hts _ mw_125) (fun _ h9 => h9) rfl (by decide +kernel) rfl rfl (Nat.le_of_ble_eq_true rfl) dX8_cats_2 (fun H locs hP hD hS => ?_)
  have hP : va_P D vwCl [((mm 0), .inr (7, [.int 0, .ref (mm 1), .ref (mm 2), .ref (mm 3), .ref (mm 4), .ref (mm 5), .int 0, .int 0, .int 0, .int 0, .int 0, .int 0, .int 0, .int 0, .int 0, .int (-1), .int 0, .ref (mm 6), .int 0, .ref (mm 7), .ref (mm 8), .ref (mm 9), .int 0, .ref (mm 10), .ref (mm 11), .int 0, .int 0, .ref (mm 12), .ref (mm 13), .int 0, .ref (mm 14), .ref (mm 15), .ref (mm 16)])), ((mm 1), .inl (k 0, 1227, .inl f)), ((mm 2), .inl (k 0, 409, .inl (fun _ => 0))), ((mm 6), .inl (k 0, 2454, .inl (fun _ => 0)))] H := hP
  have hD : va_D A [((mm 0), .inr (7, [.int 0, .ref (mm 1), .ref (mm 2), .ref (mm 3), .ref (mm 4), .ref (mm 5), .int 0, .int 0, .int 0, .int 0, .int 0, .int 0, .int 0, .int 0, .int 0, .int (-1), .int 0, .ref (mm 6), .int 0, .ref (mm 7), .ref (mm 8), .ref (mm 9), .int 0, .ref (mm 10), .ref (mm 11), .int 0, .int 0, .ref (mm 12), .ref (mm 13), .int 0, .ref (mm 14), .ref (mm 15), .ref (mm 16)])), ((mm 1), .inl (k 0, 1227, .inl f)), ((mm 2), .inl (k 0, 409, .inl (fun _ => 0))), ((mm 6), .inl (k 0, 2454, .inl (fun _ => 0)))] := hD
  refine lv_iload_n hx hb dX8_cats_5 rfl (lv_at hl 1 rfl) ?_
  refine lv_i2l (v := a.toInt64) hx hb dX8_cats_6 rfl ?_
  refine lv_lconst (v := 1) hx hb dX8_cats_7 (by decide) ?_
  refine lv_ldc2 (own := RX8) (index := 272) (v := 8) hx hb hown (hts _ mw_880) dX8_cats_8 ?_
  refine kS_i (As := [.long a.toInt64, .long 1, .long 8]) (rest := []) (cs := []) ⟨hx, hb, hml, hown, hts⟩ (c_M_within l D k a 1 8) (gS mw_294 mw_295 mw_5 mw_296) hd_yX8_within rfl rfl ⟨Nat.le_of_ble_eq_true rfl, Nat.le_of_ble_eq_true rfl⟩ hK (hP.sub (ws' := []) [] rfl) rfl hl.1 rfl (Nat.le_of_ble_eq_true rfl) dX8_cats_11 ⟨Nat.le_of_ble_eq_true rfl, Nat.le_of_ble_eq_true rfl⟩ (fun r_1 hr_1 => ?_)
  by_cases hc_2 : 1 ≤ a.toInt ∧ a.toInt ≤ 8
  · obtain rfl : r_1 = 1 := hr_1.trans (if_pos hc_2)
    refine lv_if_ne (tgt := 20) hx hb dX8_cats_14 (by decide) (fun _ => ?_) (fun c9 => absurd c9 (by decide))
    refine lv_iconst (v := 0) hx hb dX8_cats_20 (by decide) ?_
    refine lv_istore_n (lv' := [(2, .int 0), (0, .ref (mm 0)), (1, .int a)]) hx hb dX8_cats_21 rfl hl (by decide) rfl (fun ls hl => ?_)
    refine lv_iconst (v := 0) hx hb dX8_cats_22 (by decide) ?_
    refine lv_istore_n (lv' := [(3, .int 0), (2, .int 0), (0, .ref (mm 0)), (1, .int a)]) hx hb dX8_cats_23 rfl hl (by decide) rfl (fun ls hl => ?_)
    refine lv_iload_n hx hb dX8_cats_24 rfl (lv_at hl 0 rfl) ?_
    refine lv_aload_n hx hb dX8_cats_25 rfl (lv_at hl 2 rfl) ?_
    refine va_get (D := D) (ci := 7) (v := .ref (mm 1)) (C := RX8) (T := TX8) (N := 33) hx hb hts inlX8 hown hK hP 0 rfl rfl 1 (by decide) (hts _ mw_91) (fun _ h9 => h9) rfl dX8_cats_26 ?_
    refine lv_iconst (v := 0) hx hb dX8_cats_29 (by decide) ?_
    refine va_iald hx hb hK hP 1 0 rfl rfl (vp_in_c (by decide)) dX8_cats_30 ?_
    refine lv_ni (v := 0) (hf0) ?_
    refine lv_icmp_ge (tgt := 54) hx hb dX8_cats_31 (by decide) (fun _ => ?_) (fun c9 => absurd c9 (by decide))
    refine lv_iconst (v := (-1)) hx hb dX8_cats_54 (by decide) ?_
    refine lv_istore_n (lv' := [(3, .int (-1)), (2, .int 0), (0, .ref (mm 0)), (1, .int a)]) hx hb dX8_cats_55 rfl hl (by decide) rfl (fun ls hl => ?_)
    refine lv_iconst (v := 0) hx hb dX8_cats_56 (by decide) ?_
    refine lv_istore (lv' := [(4, .int 0), (3, .int (-1)), (2, .int 0), (0, .ref (mm 0)), (1, .int a)]) hx hb dX8_cats_57 hl (by decide) rfl (fun ls hl => ?_)
    refine lv_iload hx hb dX8_cats_59 (lv_at hl 0 rfl) ?_
    refine lv_iconst (v := 1) hx hb dX8_cats_61 (by decide) ?_
    refine lv_aload_n hx hb dX8_cats_62 rfl (lv_at hl 3 rfl) ?_
    refine va_get (D := D) (ci := 7) (v := .ref (mm 1)) (C := RX8) (T := TX8) (N := 33) hx hb hts inlX8 hown hK hP 0 rfl rfl 1 (by decide) (hts _ mw_91) (fun _ h9 => h9) rfl dX8_cats_63 ?_
    refine lv_iconst (v := 0) hx hb dX8_cats_66 (by decide) ?_
    refine va_iald hx hb hK hP 1 0 rfl rfl (vp_in_c (by decide)) dX8_cats_67 ?_
    refine lv_ni (v := 0) (hf0) ?_
    refine lv_ishl hx hb dX8_cats_68 ?_
    refine lv_ni (v := 1) (by decide) ?_
    refine lv_icmp_ge (tgt := 165) hx hb dX8_cats_69 (by decide) (fun c9 => absurd c9 (by decide)) (fun _ => ?_)
    refine lv_aload_n hx hb dX8_cats_72 rfl (lv_at hl 3 rfl) ?_
    refine lv_iload hx hb dX8_cats_73 (lv_at hl 0 rfl) ?_
    refine lv_i2l (v := 0) hx hb dX8_cats_75 (by decide) ?_
    refine kV_i (q0 := 0) (As := [.long 0]) (rest := []) (cs := [((mm 0), .inr (7, [.int 0, .ref (mm 1), .ref (mm 2), .ref (mm 3), .ref (mm 4), .ref (mm 5), .int 0, .int 0, .int 0, .int 0, .int 0, .int 0, .int 0, .int 0, .int 0, .int (-1), .int 0, .ref (mm 6), .int 0, .ref (mm 7), .ref (mm 8), .ref (mm 9), .int 0, .ref (mm 10), .ref (mm 11), .int 0, .int 0, .ref (mm 12), .ref (mm 13), .int 0, .ref (mm 14), .ref (mm 15), .ref (mm 16)])), ((mm 1), .inl (k 0, 1227, .inl f))]) ⟨hx, hb, hml, hown, hts⟩ (c_M_maySkip l D k _ 0 f 0 hf0) (gV mw_736 mw_737 mw_738 mw_5 mw_739) hd_yX8_maySkip rfl rfl ⟨Nat.le_of_ble_eq_true rfl, Nat.le_of_ble_eq_true rfl⟩ hK (hP.sub (ws' := [((mm 0), .inr (7, [.int 0, .ref (mm 1), .ref (mm 2), .ref (mm 3), .ref (mm 4), .ref (mm 5), .int 0, .int 0, .int 0, .int 0, .int 0, .int 0, .int 0, .int 0, .int 0, .int (-1), .int 0, .ref (mm 6), .int 0, .ref (mm 7), .ref (mm 8), .ref (mm 9), .int 0, .ref (mm 10), .ref (mm 11), .int 0, .int 0, .ref (mm 12), .ref (mm 13), .int 0, .ref (mm 14), .ref (mm 15), .ref (mm 16)])), ((mm 1), .inl (k 0, 1227, .inl f))]) [0, 1] rfl) rfl rfl rfl rfl hl.1 rfl (Nat.le_of_ble_eq_true rfl) dX8_cats_76 ⟨Nat.le_of_ble_eq_true rfl, Nat.le_of_ble_eq_true rfl⟩ (fun r_3 hr_3 => ?_)
    have hc_4 : (0 : Int) = 0 := by decide
    obtain rfl : r_3 = 1 := hr_3.trans (if_pos hc_4)
    refine lv_if_eq (tgt := 159) hx hb dX8_cats_79 (by decide) (fun c9 => absurd c9 (by decide)) (fun _ => ?_)
    refine lv_iload_n hx hb dX8_cats_82 rfl (lv_at hl 1 rfl) ?_
    refine lv_iconst (v := (-1)) hx hb dX8_cats_83 (by decide) ?_
    refine lv_icmp_eq (tgt := 102) hx hb dX8_cats_84 (by decide) (fun _ => ?_) (fun c9 => absurd c9 (by decide))
    refine lv_iconst (v := 0) hx hb dX8_cats_102 (by decide) ?_
    refine lv_istore (lv' := [(5, .int 0), (4, .int 0), (3, .int (-1)), (2, .int 0), (0, .ref (mm 0)), (1, .int a)]) hx hb dX8_cats_103 hl (by decide) rfl (fun ls hl => ?_)
    refine lv_iload hx hb dX8_cats_105 (lv_at hl 0 rfl) ?_
    refine lv_aload_n hx hb dX8_cats_107 rfl (lv_at hl 4 rfl) ?_
    refine va_get (D := D) (ci := 7) (v := .ref (mm 1)) (C := RX8) (T := TX8) (N := 33) hx hb hts inlX8 hown hK hP 0 rfl rfl 1 (by decide) (hts _ mw_91) (fun _ h9 => h9) rfl dX8_cats_108 ?_
    refine lv_iconst (v := 0) hx hb dX8_cats_111 (by decide) ?_
    refine va_iald hx hb hK hP 1 0 rfl rfl (vp_in_c (by decide)) dX8_cats_112 ?_
    refine lv_ni (v := 0) (hf0) ?_
    refine lv_icmp_ge (tgt := 148) hx hb dX8_cats_113 (by decide) (fun _ => ?_) (fun c9 => absurd c9 (by decide))
    refine lv_aload_n hx hb dX8_cats_148 rfl (lv_at hl 4 rfl) ?_
    refine lv_iload_n hx hb dX8_cats_149 rfl (lv_at hl 5 rfl) ?_
    refine kV_ui (q0 := 0) (As := [.int a]) (rest := []) (wc := [((mm 0), .inr (7, [.int 0, .ref (mm 1), .ref (mm 2), .ref (mm 3), .ref (mm 4), .ref (mm 5), .int 0, .int 0, .int 0, .int 0, .int 0, .int 0, .int 0, .int 0, .int 0, .int (-1), .int 0, .ref (mm 6), .int 0, .ref (mm 7), .ref (mm 8), .ref (mm 9), .int 0, .ref (mm 10), .ref (mm 11), .int 0, .int 0, .ref (mm 12), .ref (mm 13), .int 0, .ref (mm 14), .ref (mm 15), .ref (mm 16)])), ((mm 1), .inl (k 0, 1227, .inl f)), ((mm 2), .inl (k 0, 409, .inl (fun _ => 0))), ((mm 6), .inl (k 0, 2454, .inl (fun _ => 0)))]) (wr := []) ⟨hx, hb, hml, hown, hts⟩ (c_M_miceBehind l D k _ 0 f (fun _ => 0) (fun _ => 0) a _ hf0 rfl KZ_0 (by omega)) (gV mw_843 mw_844 mw_845 mw_5 mw_846) hd_yX8_miceBehind rfl rfl ⟨Nat.le_of_ble_eq_true rfl, Nat.le_of_ble_eq_true rfl⟩ hK hP hD hS hA [0, 1, 2, 3] [] rfl rfl (by decide) (by decide) (by decide) rfl rfl rfl rfl hl.1 rfl (Nat.le_of_ble_eq_true rfl) dX8_cats_150 ⟨Nat.le_of_ble_eq_true rfl, Nat.le_of_ble_eq_true rfl⟩ (fun r_5 u_6 H locs hw hP hD hS => ?_)
    obtain ⟨v_7, v_8, v_9⟩ := u_6
    obtain ⟨hr_5, h_10, h_11, h_12⟩ := hw
    have h_10 : v_7 0 = 0 := h_10
    have h_11 : v_8 0 = 0 := h_11
    have h_12 : KZ v_9 := h_12
    have hP : va_P D vwCl [((mm 0), .inr (7, [.int 0, .ref (mm 1), .ref (mm 2), .ref (mm 3), .ref (mm 4), .ref (mm 5), .int 0, .int 0, .int 0, .int 0, .int 0, .int 0, .int 0, .int 0, .int 0, .int (-1), .int 0, .ref (mm 6), .int 0, .ref (mm 7), .ref (mm 8), .ref (mm 9), .int 0, .ref (mm 10), .ref (mm 11), .int 0, .int 0, .ref (mm 12), .ref (mm 13), .int 0, .ref (mm 14), .ref (mm 15), .ref (mm 16)])), ((mm 1), .inl (k 0, 1227, .inl v_7)), ((mm 2), .inl (k 0, 409, .inl v_8)), ((mm 6), .inl (k 0, 2454, .inl v_9))] H := hP
    have hD : va_D A [((mm 0), .inr (7, [.int 0, .ref (mm 1), .ref (mm 2), .ref (mm 3), .ref (mm 4), .ref (mm 5), .int 0, .int 0, .int 0, .int 0, .int 0, .int 0, .int 0, .int 0, .int 0, .int (-1), .int 0, .ref (mm 6), .int 0, .ref (mm 7), .ref (mm 8), .ref (mm 9), .int 0, .ref (mm 10), .ref (mm 11), .int 0, .int 0, .ref (mm 12), .ref (mm 13), .int 0, .ref (mm 14), .ref (mm 15), .ref (mm 16)])), ((mm 1), .inl (k 0, 1227, .inl v_7)), ((mm 2), .inl (k 0, 409, .inl v_8)), ((mm 6), .inl (k 0, 2454, .inl v_9))] := hD
    obtain rfl : r_5 = 0 := hr_5
    refine lv_if_ne (tgt := 159) hx hb dX8_cats_153 (by decide) (fun c9 => absurd c9 (by decide)) (fun _ => ?_)
    refine lv_iload hx hb dX8_cats_156 (lv_at hl 1 rfl) ?_
    refine lv_istore_n (lv' := [(3, .int 0), (5, .int 0), (4, .int 0), (2, .int 0), (0, .ref (mm 0)), (1, .int a)]) hx hb dX8_cats_158 rfl hl (by decide) rfl (fun ls hl => ?_)
    refine lv_iinc (v := 1) (lv' := [(4, .int 1), (3, .int 0), (5, .int 0), (2, .int 0), (0, .ref (mm 0)), (1, .int a)]) hx hb dX8_cats_159 hl (k := 2) rfl (by decide) (by decide) rfl (fun ls hl => ?_)
    refine lv_goto (tgt := 59) hx hb dX8_cats_162 (by decide) ?_
    refine lv_iload hx hb dX8_cats_59 (lv_at hl 0 rfl) ?_
    refine lv_iconst (v := 1) hx hb dX8_cats_61 (by decide) ?_
    refine lv_aload_n hx hb dX8_cats_62 rfl (lv_at hl 4 rfl) ?_
    refine va_get (D := D) (ci := 7) (v := .ref (mm 1)) (C := RX8) (T := TX8) (N := 33) hx hb hts inlX8 hown hK hP 0 rfl rfl 1 (by decide) (hts _ mw_91) (fun _ h9 => h9) rfl dX8_cats_63 ?_
    refine lv_iconst (v := 0) hx hb dX8_cats_66 (by decide) ?_
    refine va_iald hx hb hK hP 1 0 rfl rfl (vp_in_c (by decide)) dX8_cats_67 ?_
    refine lv_ni (v := 0) (h_10) ?_
    refine lv_ishl hx hb dX8_cats_68 ?_
    refine lv_ni (v := 1) (by decide) ?_
    refine lv_icmp_ge (tgt := 165) hx hb dX8_cats_69 (by decide) (fun _ => ?_) (fun c9 => absurd c9 (by decide))
    refine lv_iconst (v := 0) hx hb dX8_cats_165 (by decide) ?_
    refine lv_istore (lv' := [(4, .int 0), (3, .int 0), (5, .int 0), (2, .int 0), (0, .ref (mm 0)), (1, .int a)]) hx hb dX8_cats_166 hl (by decide) rfl (fun ls hl => ?_)
    refine lv_iload hx hb dX8_cats_168 (lv_at hl 0 rfl) ?_
    refine lv_aload_n hx hb dX8_cats_170 rfl (lv_at hl 4 rfl) ?_
    refine va_get (D := D) (ci := 7) (v := .ref (mm 1)) (C := RX8) (T := TX8) (N := 33) hx hb hts inlX8 hown hK hP 0 rfl rfl 1 (by decide) (hts _ mw_91) (fun _ h9 => h9) rfl dX8_cats_171 ?_
    refine lv_iconst (v := 0) hx hb dX8_cats_174 (by decide) ?_
    refine va_iald hx hb hK hP 1 0 rfl rfl (vp_in_c (by decide)) dX8_cats_175 ?_
    refine lv_ni (v := 0) (h_10) ?_
    refine lv_icmp_ge (tgt := 210) hx hb dX8_cats_176 (by decide) (fun _ => ?_) (fun c9 => absurd c9 (by decide))
    refine lv_iload_n hx hb dX8_cats_210 rfl (lv_at hl 1 rfl) ?_
    have hP9 := hP.sub (ws' := []) [] rfl
    have hD9 := hD.sub (ws' := []) [] (by decide) rfl
    exact W.iret (v := 0) hx hb hr (fun t ht hW => ⟨⟨0, (), rfl, (by (repeat' split) <;> first | rfl | (exfalso; omega)), by rw [ht]; exact hP9, hD9⟩, hS.F ht⟩) hS.2.2 dX8_cats_211
  have hr_1 := hr_1.trans (if_neg hc_2)
  obtain rfl : r_1 = 0 := hr_1
  refine lv_if_ne (tgt := 20) hx hb dX8_cats_14 (by decide) (fun c9 => absurd c9 (by decide)) (fun _ => ?_)
  refine lv_bipush (v := (-3)) hx hb dX8_cats_17 (by decide) ?_
  have hP9 := hP.sub (ws' := []) [] rfl
  have hD9 := hD.sub (ws' := []) [] (by decide) rfl
  exact W.iret (v := (-3)) hx hb hr (fun t ht hW => ⟨⟨(-3), (), rfl, (by (repeat' split) <;> first | rfl | (exfalso; omega)), by rw [ht]; exact hP9, hD9⟩, hS.F ht⟩) hS.2.2 dX8_cats_19
set_option maxHeartbeats 4000000 in
set_option maxRecDepth 100000 in
theorem c_M_sparkIn (l : Launch) (D : va_G) (k : Nat → ClassId) (mm : Nat → Nat) (f : Nat → Int32) (a : Int32) (x : Int32) (sz : Nat) (hf0 : f 0 = 0) : Met l yX8_sparkIn (Cond.code yX8_sparkIn cX8_sparkIn 5 (some .int) :: wsL_law) ({ frames := 1, cells := 0, slots := 0, locals := 60 } : Room) (va_Pc [.ref (mm 0), .int a, .int x] (pu D k sz [((mm 0), .inr (7, [.int 0, .ref (mm 1), .ref (mm 2), .ref (mm 3), .ref (mm 4), .ref (mm 5), .int 0, .int 0, .int 0, .int 0, .int 0, .int 0, .int 0, .int 0, .int 0, .int (-1), .int 0, .ref (mm 6), .int 0, .ref (mm 7), .ref (mm 8), .ref (mm 9), .int 0, .ref (mm 10), .ref (mm 11), .int 0, .int 0, .ref (mm 12), .ref (mm 13), .int 0, .ref (mm 14), .ref (mm 15), .ref (mm 16)])), ((mm 1), .inl (k 0, 1227, .inl f))])) (va_Qi (fun rr (uu : Unit) => rr = (-2)) (qu D (va_A [((mm 0), .inr (7, [.int 0, .ref (mm 1), .ref (mm 2), .ref (mm 3), .ref (mm 4), .ref (mm 5), .int 0, .int 0, .int 0, .int 0, .int 0, .int 0, .int 0, .int 0, .int 0, .int (-1), .int 0, .ref (mm 6), .int 0, .ref (mm 7), .ref (mm 8), .ref (mm 9), .int 0, .ref (mm 10), .ref (mm 11), .int 0, .int 0, .ref (mm 12), .ref (mm 13), .int 0, .ref (mm 14), .ref (mm 15), .ref (mm 16)])), ((mm 1), .inl (k 0, 1227, .inl f))] sz) (fun uu : Unit => [])) (va_A [((mm 0), .inr (7, [.int 0, .ref (mm 1), .ref (mm 2), .ref (mm 3), .ref (mm 4), .ref (mm 5), .int 0, .int 0, .int 0, .int 0, .int 0, .int 0, .int 0, .int 0, .int 0, .int (-1), .int 0, .ref (mm 6), .int 0, .ref (mm 7), .ref (mm 8), .ref (mm 9), .int 0, .ref (mm 10), .ref (mm 11), .int 0, .int 0, .ref (mm 12), .ref (mm 13), .int 0, .ref (mm 14), .ref (mm 15), .ref (mm 16)])), ((mm 1), .inl (k 0, 1227, .inl f))] sz)) 0 0 (va_A [((mm 0), .inr (7, [.int 0, .ref (mm 1), .ref (mm 2), .ref (mm 3), .ref (mm 4), .ref (mm 5), .int 0, .int 0, .int 0, .int 0, .int 0, .int 0, .int 0, .int 0, .int 0, .int (-1), .int 0, .ref (mm 6), .int 0, .ref (mm 7), .ref (mm 8), .ref (mm 9), .int 0, .ref (mm 10), .ref (mm 11), .int 0, .int 0, .ref (mm 12), .ref (mm 13), .int 0, .ref (mm 14), .ref (mm 15), .ref (mm 16)])), ((mm 1), .inl (k 0, 1227, .inl f))] sz) := by
  refine Met.ofW (cc := cX8_sparkIn) (maxL := 5) (ret := (some .int)) (by decide) rfl ?_
  intro p e s m args below meth c s₁ B hml hv
  obtain ⟨rfl, hsz, hP, hK, hD0⟩ := hv
  have hx := B.exec
  have hb := B.bytes
  have hr := B.returns
  have hts : ∀ w ∈ wsL_law, w.before _ s = true := fun w h => atoms_spec (ws := Cond.code yX8_sparkIn cX8_sparkIn 5 (some .int) :: wsL_law) B.pre w (List.mem_cons_of_mem _ h)
  have hown : s.vm.findClass RX8 = some m.cls := findClass_of_methodNamed B.named
  have hlocks := B.notSynchronized
  subst hsz
  have hD := hD0.self (sz := s.heap.size)
  generalize hAe : va_A [((mm 0), .inr (7, [.int 0, .ref (mm 1), .ref (mm 2), .ref (mm 3), .ref (mm 4), .ref (mm 5), .int 0, .int 0, .int 0, .int 0, .int 0, .int 0, .int 0, .int 0, .int 0, .int (-1), .int 0, .ref (mm 6), .int 0, .ref (mm 7), .ref (mm 8), .ref (mm 9), .int 0, .ref (mm 10), .ref (mm 11), .int 0, .int 0, .ref (mm 12), .ref (mm 13), .int 0, .ref (mm 14), .ref (mm 15), .ref (mm 16)])), ((mm 1), .inl (k 0, 1227, .inl f))] s.heap.size = A at hD ⊢
  have hA : ∀ q : Nat, s.heap.size ≤ q → A q := fun q h => by rw [← hAe]; exact Or.inr h
  have hS : va_S A s.heap s.heap [] := va_S.rf
  have hP : va_P D vwCl [((mm 0), .inr (7, [.int 0, .ref (mm 1), .ref (mm 2), .ref (mm 3), .ref (mm 4), .ref (mm 5), .int 0, .int 0, .int 0, .int 0, .int 0, .int 0, .int 0, .int 0, .int 0, .int (-1), .int 0, .ref (mm 6), .int 0, .ref (mm 7), .ref (mm 8), .ref (mm 9), .int 0, .ref (mm 10), .ref (mm 11), .int 0, .int 0, .ref (mm 12), .ref (mm 13), .int 0, .ref (mm 14), .ref (mm 15), .ref (mm 16)])), ((mm 1), .inl (k 0, 1227, .inl f))] s.heap := hP
  have hl := lv_entry ([.ref (mm 0), .int a, .int x]) (n := 5) (Nat.le_of_ble_eq_true rfl)
  rw [lg_entry_eq]
  generalize (lg_sl ([.ref (mm 0), .int a, .int x]) ++ List.replicate (5 - (lg_sl ([.ref (mm 0), .int a, .int x])).length) Slot.unset).toArray = ls at hl ⊢
  have hl : lv_has ls 5 [(0, .ref (mm 0)), (1, .int a), (2, .int x)] := hl
  refine lv_aload_n hx hb dX8_sparkIn_0 rfl (lv_at hl 0 rfl) ?_
  refine lv_iconst (v := 0) hx hb dX8_sparkIn_1 (by decide) ?_
  refine va_put (D := D) (ci := 7) (v := .int 0) (ty := .int) (C := RX8) (T := TX8) (N := 33) hx hb hts inlX8 tyX8 tyX8_ok nmX8 hown hK hP hD hS 0 rfl rfl 0 (by decide) (hts _ mw_125) (fun _ h9 => h9) rfl (by decide +kernel) rfl rfl (Nat.le_of_ble_eq_true rfl) dX8_sparkIn_2 (fun H locs hP hD hS => ?_)
  have hP : va_P D vwCl [((mm 0), .inr (7, [.int 0, .ref (mm 1), .ref (mm 2), .ref (mm 3), .ref (mm 4), .ref (mm 5), .int 0, .int 0, .int 0, .int 0, .int 0, .int 0, .int 0, .int 0, .int 0, .int (-1), .int 0, .ref (mm 6), .int 0, .ref (mm 7), .ref (mm 8), .ref (mm 9), .int 0, .ref (mm 10), .ref (mm 11), .int 0, .int 0, .ref (mm 12), .ref (mm 13), .int 0, .ref (mm 14), .ref (mm 15), .ref (mm 16)])), ((mm 1), .inl (k 0, 1227, .inl f))] H := hP
  have hD : va_D A [((mm 0), .inr (7, [.int 0, .ref (mm 1), .ref (mm 2), .ref (mm 3), .ref (mm 4), .ref (mm 5), .int 0, .int 0, .int 0, .int 0, .int 0, .int 0, .int 0, .int 0, .int 0, .int (-1), .int 0, .ref (mm 6), .int 0, .ref (mm 7), .ref (mm 8), .ref (mm 9), .int 0, .ref (mm 10), .ref (mm 11), .int 0, .int 0, .ref (mm 12), .ref (mm 13), .int 0, .ref (mm 14), .ref (mm 15), .ref (mm 16)])), ((mm 1), .inl (k 0, 1227, .inl f))] := hD
  refine lv_aload_n hx hb dX8_sparkIn_5 rfl (lv_at hl 0 rfl) ?_
  refine lv_iload_n hx hb dX8_sparkIn_6 rfl (lv_at hl 1 rfl) ?_
  refine kV_i (q0 := 0) (As := [.int a]) (rest := []) (cs := [((mm 0), .inr (7, [.int 0, .ref (mm 1), .ref (mm 2), .ref (mm 3), .ref (mm 4), .ref (mm 5), .int 0, .int 0, .int 0, .int 0, .int 0, .int 0, .int 0, .int 0, .int 0, .int (-1), .int 0, .ref (mm 6), .int 0, .ref (mm 7), .ref (mm 8), .ref (mm 9), .int 0, .ref (mm 10), .ref (mm 11), .int 0, .int 0, .ref (mm 12), .ref (mm 13), .int 0, .ref (mm 14), .ref (mm 15), .ref (mm 16)])), ((mm 1), .inl (k 0, 1227, .inl f))]) ⟨hx, hb, hml, hown, hts⟩ (c_M_sparkAt l D k _ 0 f a hf0) (gV mw_908 mw_909 mw_910 mw_5 mw_911) hd_yX8_sparkAt rfl rfl ⟨Nat.le_of_ble_eq_true rfl, Nat.le_of_ble_eq_true rfl⟩ hK (hP.sub (ws' := [((mm 0), .inr (7, [.int 0, .ref (mm 1), .ref (mm 2), .ref (mm 3), .ref (mm 4), .ref (mm 5), .int 0, .int 0, .int 0, .int 0, .int 0, .int 0, .int 0, .int 0, .int 0, .int (-1), .int 0, .ref (mm 6), .int 0, .ref (mm 7), .ref (mm 8), .ref (mm 9), .int 0, .ref (mm 10), .ref (mm 11), .int 0, .int 0, .ref (mm 12), .ref (mm 13), .int 0, .ref (mm 14), .ref (mm 15), .ref (mm 16)])), ((mm 1), .inl (k 0, 1227, .inl f))]) [0, 1] rfl) rfl rfl rfl rfl hl.1 rfl (Nat.le_of_ble_eq_true rfl) dX8_sparkIn_7 ⟨Nat.le_of_ble_eq_true rfl, Nat.le_of_ble_eq_true rfl⟩ (fun r_1 hr_1 => ?_)
  obtain rfl : r_1 = (-1) := hr_1
  refine lv_istore_n (lv' := [(3, .int (-1)), (0, .ref (mm 0)), (1, .int a), (2, .int x)]) hx hb dX8_sparkIn_10 rfl hl (by decide) rfl (fun ls hl => ?_)
  refine lv_iload_n hx hb dX8_sparkIn_11 rfl (lv_at hl 0 rfl) ?_
  refine lv_iconst (v := (-1)) hx hb dX8_sparkIn_12 (by decide) ?_
  refine lv_icmp_ne (tgt := 19) hx hb dX8_sparkIn_13 (by decide) (fun c9 => absurd c9 (by decide)) (fun _ => ?_)
  refine lv_bipush (v := (-2)) hx hb dX8_sparkIn_16 (by decide) ?_
  have hP9 := hP.sub (ws' := []) [] rfl
  have hD9 := hD.sub (ws' := []) [] (by decide) rfl
  exact W.iret (v := (-2)) hx hb hr (fun t ht hW => ⟨⟨(-2), (), rfl, rfl, by rw [ht]; exact hP9, hD9⟩, hS.F ht⟩) hS.2.2 dX8_sparkIn_18
set_option maxHeartbeats 4000000 in
set_option maxRecDepth 100000 in
theorem c_M_outOf (l : Launch) (D : va_G) (k : Nat → ClassId) (mm : Nat → Nat) (f : Nat → Int32) (a : Int32) (sz : Nat) (hf0 : f 0 = 0) (hf5 : f 5 = 4) : Met l yX8_outOf (Cond.code yX8_outOf cX8_outOf 2 (some .long) :: wsL_law) ({ frames := 1, cells := 0, slots := 0, locals := 60 } : Room) (va_Pc [.ref (mm 0), .int a] (pu D k sz [((mm 0), .inr (7, [.int 0, .ref (mm 1), .ref (mm 2), .ref (mm 3), .ref (mm 4), .ref (mm 5), .int 0, .int 0, .int 0, .int 0, .int 0, .int 0, .int 0, .int 0, .int 0, .int (-1), .int 0, .ref (mm 6), .int 0, .ref (mm 7), .ref (mm 8), .ref (mm 9), .int 0, .ref (mm 10), .ref (mm 11), .int 0, .int 0, .ref (mm 12), .ref (mm 13), .int 0, .ref (mm 14), .ref (mm 15), .ref (mm 16)])), ((mm 1), .inl (k 0, 1227, .inl f))])) (va_Ql (fun rr (uu : Unit) => rr = if 1 ≤ a.toInt ∧ a.toInt ≤ 6 then 1 else (-3)) (qu D (va_A [((mm 0), .inr (7, [.int 0, .ref (mm 1), .ref (mm 2), .ref (mm 3), .ref (mm 4), .ref (mm 5), .int 0, .int 0, .int 0, .int 0, .int 0, .int 0, .int 0, .int 0, .int 0, .int (-1), .int 0, .ref (mm 6), .int 0, .ref (mm 7), .ref (mm 8), .ref (mm 9), .int 0, .ref (mm 10), .ref (mm 11), .int 0, .int 0, .ref (mm 12), .ref (mm 13), .int 0, .ref (mm 14), .ref (mm 15), .ref (mm 16)])), ((mm 1), .inl (k 0, 1227, .inl f))] sz) (fun uu : Unit => [])) (va_A [((mm 0), .inr (7, [.int 0, .ref (mm 1), .ref (mm 2), .ref (mm 3), .ref (mm 4), .ref (mm 5), .int 0, .int 0, .int 0, .int 0, .int 0, .int 0, .int 0, .int 0, .int 0, .int (-1), .int 0, .ref (mm 6), .int 0, .ref (mm 7), .ref (mm 8), .ref (mm 9), .int 0, .ref (mm 10), .ref (mm 11), .int 0, .int 0, .ref (mm 12), .ref (mm 13), .int 0, .ref (mm 14), .ref (mm 15), .ref (mm 16)])), ((mm 1), .inl (k 0, 1227, .inl f))] sz)) 0 0 (va_A [((mm 0), .inr (7, [.int 0, .ref (mm 1), .ref (mm 2), .ref (mm 3), .ref (mm 4), .ref (mm 5), .int 0, .int 0, .int 0, .int 0, .int 0, .int 0, .int 0, .int 0, .int 0, .int (-1), .int 0, .ref (mm 6), .int 0, .ref (mm 7), .ref (mm 8), .ref (mm 9), .int 0, .ref (mm 10), .ref (mm 11), .int 0, .int 0, .ref (mm 12), .ref (mm 13), .int 0, .ref (mm 14), .ref (mm 15), .ref (mm 16)])), ((mm 1), .inl (k 0, 1227, .inl f))] sz) := by
  refine Met.ofW (cc := cX8_outOf) (maxL := 2) (ret := (some .long)) (by decide) rfl ?_
  intro p e s m args below meth c s₁ B hml hv
  obtain ⟨rfl, hsz, hP, hK, hD0⟩ := hv
  have hx := B.exec
  have hb := B.bytes
  have hr := B.returns
  have hts : ∀ w ∈ wsL_law, w.before _ s = true := fun w h => atoms_spec (ws := Cond.code yX8_outOf cX8_outOf 2 (some .long) :: wsL_law) B.pre w (List.mem_cons_of_mem _ h)
  have hown : s.vm.findClass RX8 = some m.cls := findClass_of_methodNamed B.named
  have hlocks := B.notSynchronized
  subst hsz
  have hD := hD0.self (sz := s.heap.size)
  generalize hAe : va_A [((mm 0), .inr (7, [.int 0, .ref (mm 1), .ref (mm 2), .ref (mm 3), .ref (mm 4), .ref (mm 5), .int 0, .int 0, .int 0, .int 0, .int 0, .int 0, .int 0, .int 0, .int 0, .int (-1), .int 0, .ref (mm 6), .int 0, .ref (mm 7), .ref (mm 8), .ref (mm 9), .int 0, .ref (mm 10), .ref (mm 11), .int 0, .int 0, .ref (mm 12), .ref (mm 13), .int 0, .ref (mm 14), .ref (mm 15), .ref (mm 16)])), ((mm 1), .inl (k 0, 1227, .inl f))] s.heap.size = A at hD ⊢
  have hA : ∀ q : Nat, s.heap.size ≤ q → A q := fun q h => by rw [← hAe]; exact Or.inr h
  have hS : va_S A s.heap s.heap [] := va_S.rf
  have hP : va_P D vwCl [((mm 0), .inr (7, [.int 0, .ref (mm 1), .ref (mm 2), .ref (mm 3), .ref (mm 4), .ref (mm 5), .int 0, .int 0, .int 0, .int 0, .int 0, .int 0, .int 0, .int 0, .int 0, .int (-1), .int 0, .ref (mm 6), .int 0, .ref (mm 7), .ref (mm 8), .ref (mm 9), .int 0, .ref (mm 10), .ref (mm 11), .int 0, .int 0, .ref (mm 12), .ref (mm 13), .int 0, .ref (mm 14), .ref (mm 15), .ref (mm 16)])), ((mm 1), .inl (k 0, 1227, .inl f))] s.heap := hP
  have hl := lv_entry ([.ref (mm 0), .int a]) (n := 2) (Nat.le_of_ble_eq_true rfl)
  rw [lg_entry_eq]
  generalize (lg_sl ([.ref (mm 0), .int a]) ++ List.replicate (2 - (lg_sl ([.ref (mm 0), .int a])).length) Slot.unset).toArray = ls at hl ⊢
  have hl : lv_has ls 2 [(0, .ref (mm 0)), (1, .int a)] := hl
  refine lv_aload_n hx hb dX8_outOf_0 rfl (lv_at hl 0 rfl) ?_
  refine lv_iconst (v := 0) hx hb dX8_outOf_1 (by decide) ?_
  refine va_put (D := D) (ci := 7) (v := .int 0) (ty := .int) (C := RX8) (T := TX8) (N := 33) hx hb hts inlX8 tyX8 tyX8_ok nmX8 hown hK hP hD hS 0 rfl rfl 0 (by decide) (hts _ mw_125) (fun _ h9 => h9) rfl (by decide +kernel) rfl rfl (Nat.le_of_ble_eq_true rfl) dX8_outOf_2 (fun H locs hP hD hS => ?_)
  have hP : va_P D vwCl [((mm 0), .inr (7, [.int 0, .ref (mm 1), .ref (mm 2), .ref (mm 3), .ref (mm 4), .ref (mm 5), .int 0, .int 0, .int 0, .int 0, .int 0, .int 0, .int 0, .int 0, .int 0, .int (-1), .int 0, .ref (mm 6), .int 0, .ref (mm 7), .ref (mm 8), .ref (mm 9), .int 0, .ref (mm 10), .ref (mm 11), .int 0, .int 0, .ref (mm 12), .ref (mm 13), .int 0, .ref (mm 14), .ref (mm 15), .ref (mm 16)])), ((mm 1), .inl (k 0, 1227, .inl f))] H := hP
  have hD : va_D A [((mm 0), .inr (7, [.int 0, .ref (mm 1), .ref (mm 2), .ref (mm 3), .ref (mm 4), .ref (mm 5), .int 0, .int 0, .int 0, .int 0, .int 0, .int 0, .int 0, .int 0, .int 0, .int (-1), .int 0, .ref (mm 6), .int 0, .ref (mm 7), .ref (mm 8), .ref (mm 9), .int 0, .ref (mm 10), .ref (mm 11), .int 0, .int 0, .ref (mm 12), .ref (mm 13), .int 0, .ref (mm 14), .ref (mm 15), .ref (mm 16)])), ((mm 1), .inl (k 0, 1227, .inl f))] := hD
  refine lv_iload_n hx hb dX8_outOf_5 rfl (lv_at hl 1 rfl) ?_
  refine lv_i2l (v := a.toInt64) hx hb dX8_outOf_6 rfl ?_
  refine lv_lconst (v := 1) hx hb dX8_outOf_7 (by decide) ?_
  refine lv_ldc2 (own := RX8) (index := 179) (v := 6) hx hb hown (hts _ mw_459) dX8_outOf_8 ?_
  refine kS_i (As := [.long a.toInt64, .long 1, .long 6]) (rest := []) (cs := []) ⟨hx, hb, hml, hown, hts⟩ (c_M_within l D k a 1 6) (gS mw_294 mw_295 mw_5 mw_296) hd_yX8_within rfl rfl ⟨Nat.le_of_ble_eq_true rfl, Nat.le_of_ble_eq_true rfl⟩ hK (hP.sub (ws' := []) [] rfl) rfl hl.1 rfl (Nat.le_of_ble_eq_true rfl) dX8_outOf_11 ⟨Nat.le_of_ble_eq_true rfl, Nat.le_of_ble_eq_true rfl⟩ (fun r_1 hr_1 => ?_)
  by_cases hc_2 : 1 ≤ a.toInt ∧ a.toInt ≤ 6
  · obtain rfl : r_1 = 1 := hr_1.trans (if_pos hc_2)
    refine lv_if_ne (tgt := 21) hx hb dX8_outOf_14 (by decide) (fun _ => ?_) (fun c9 => absurd c9 (by decide))
    refine lv_aload_n hx hb dX8_outOf_21 rfl (lv_at hl 0 rfl) ?_
    refine lv_sipush (v := 289) hx hb dX8_outOf_22 (by decide) ?_
    refine kV_i (q0 := 0) (As := [.int 289]) (rest := []) (cs := [((mm 0), .inr (7, [.int 0, .ref (mm 1), .ref (mm 2), .ref (mm 3), .ref (mm 4), .ref (mm 5), .int 0, .int 0, .int 0, .int 0, .int 0, .int 0, .int 0, .int 0, .int 0, .int (-1), .int 0, .ref (mm 6), .int 0, .ref (mm 7), .ref (mm 8), .ref (mm 9), .int 0, .ref (mm 10), .ref (mm 11), .int 0, .int 0, .ref (mm 12), .ref (mm 13), .int 0, .ref (mm 14), .ref (mm 15), .ref (mm 16)])), ((mm 1), .inl (k 0, 1227, .inl f))]) ⟨hx, hb, hml, hown, hts⟩ (c_M_sumAll l D k _ 0 f 289 hf0) (gV mw_847 mw_848 mw_849 mw_5 mw_850) hd_yX8_sumAll rfl rfl ⟨Nat.le_of_ble_eq_true rfl, Nat.le_of_ble_eq_true rfl⟩ hK (hP.sub (ws' := [((mm 0), .inr (7, [.int 0, .ref (mm 1), .ref (mm 2), .ref (mm 3), .ref (mm 4), .ref (mm 5), .int 0, .int 0, .int 0, .int 0, .int 0, .int 0, .int 0, .int 0, .int 0, .int (-1), .int 0, .ref (mm 6), .int 0, .ref (mm 7), .ref (mm 8), .ref (mm 9), .int 0, .ref (mm 10), .ref (mm 11), .int 0, .int 0, .ref (mm 12), .ref (mm 13), .int 0, .ref (mm 14), .ref (mm 15), .ref (mm 16)])), ((mm 1), .inl (k 0, 1227, .inl f))]) [0, 1] rfl) rfl rfl rfl rfl hl.1 rfl (Nat.le_of_ble_eq_true rfl) dX8_outOf_25 ⟨Nat.le_of_ble_eq_true rfl, Nat.le_of_ble_eq_true rfl⟩ (fun r_3 hr_3 => ?_)
    obtain rfl : r_3 = 0 := hr_3
    refine lv_iconst (v := 3) hx hb dX8_outOf_28 (by decide) ?_
    refine lv_icmp_le (tgt := 38) hx hb dX8_outOf_29 (by decide) (fun _ => ?_) (fun c9 => absurd c9 (by decide))
    refine lv_aload_n hx hb dX8_outOf_38 rfl (lv_at hl 0 rfl) ?_
    refine va_get (D := D) (ci := 7) (v := .ref (mm 1)) (C := RX8) (T := TX8) (N := 33) hx hb hts inlX8 hown hK hP 0 rfl rfl 1 (by decide) (hts _ mw_91) (fun _ h9 => h9) rfl dX8_outOf_39 ?_
    refine lv_iconst (v := 5) hx hb dX8_outOf_42 (by decide) ?_
    refine va_iald hx hb hK hP 1 0 rfl rfl (vp_in_c (by decide)) dX8_outOf_43 ?_
    refine lv_ni (v := 4) (hf5) ?_
    refine lv_iload_n hx hb dX8_outOf_44 rfl (lv_at hl 1 rfl) ?_
    refine lv_aload_n hx hb dX8_outOf_45 rfl (lv_at hl 0 rfl) ?_
    refine lv_sipush (v := 289) hx hb dX8_outOf_46 (by decide) ?_
    refine kV_i (q0 := 0) (As := [.int 289]) (rest := [.int a, .int 4]) (cs := [((mm 0), .inr (7, [.int 0, .ref (mm 1), .ref (mm 2), .ref (mm 3), .ref (mm 4), .ref (mm 5), .int 0, .int 0, .int 0, .int 0, .int 0, .int 0, .int 0, .int 0, .int 0, .int (-1), .int 0, .ref (mm 6), .int 0, .ref (mm 7), .ref (mm 8), .ref (mm 9), .int 0, .ref (mm 10), .ref (mm 11), .int 0, .int 0, .ref (mm 12), .ref (mm 13), .int 0, .ref (mm 14), .ref (mm 15), .ref (mm 16)])), ((mm 1), .inl (k 0, 1227, .inl f))]) ⟨hx, hb, hml, hown, hts⟩ (c_M_sumAll l D k _ 0 f 289 hf0) (gV mw_847 mw_848 mw_849 mw_5 mw_850) hd_yX8_sumAll rfl rfl ⟨Nat.le_of_ble_eq_true rfl, Nat.le_of_ble_eq_true rfl⟩ hK (hP.sub (ws' := [((mm 0), .inr (7, [.int 0, .ref (mm 1), .ref (mm 2), .ref (mm 3), .ref (mm 4), .ref (mm 5), .int 0, .int 0, .int 0, .int 0, .int 0, .int 0, .int 0, .int 0, .int 0, .int (-1), .int 0, .ref (mm 6), .int 0, .ref (mm 7), .ref (mm 8), .ref (mm 9), .int 0, .ref (mm 10), .ref (mm 11), .int 0, .int 0, .ref (mm 12), .ref (mm 13), .int 0, .ref (mm 14), .ref (mm 15), .ref (mm 16)])), ((mm 1), .inl (k 0, 1227, .inl f))]) [0, 1] rfl) rfl rfl rfl rfl hl.1 rfl (Nat.le_of_ble_eq_true rfl) dX8_outOf_49 ⟨Nat.le_of_ble_eq_true rfl, Nat.le_of_ble_eq_true rfl⟩ (fun r_4 hr_4 => ?_)
    obtain rfl : r_4 = 0 := hr_4
    refine lv_imul hx hb dX8_outOf_52 ?_
    refine lv_ni (v := 0) (mul_0 _) ?_
    refine kS_l (As := [.int 4, .int 0]) (rest := []) (cs := []) ⟨hx, hb, hml, hown, hts⟩ (c_M_power0 l D k 4) (gS mw_948 mw_949 mw_5 mw_950) hd_yX8_power rfl rfl ⟨Nat.le_of_ble_eq_true rfl, Nat.le_of_ble_eq_true rfl⟩ hK (hP.sub (ws' := []) [] rfl) rfl hl.1 rfl (Nat.le_of_ble_eq_true rfl) dX8_outOf_53 ⟨Nat.le_of_ble_eq_true rfl, Nat.le_of_ble_eq_true rfl⟩ (fun r_5 hr_5 => ?_)
    obtain rfl : r_5 = 1 := hr_5
    have hP9 := hP.sub (ws' := []) [] rfl
    have hD9 := hD.sub (ws' := []) [] (by decide) rfl
    exact W.lret (v := 1) hx hb hr (fun t ht hW => ⟨⟨1, (), rfl, (by (repeat' split) <;> first | rfl | (exfalso; omega)), by rw [ht]; exact hP9, hD9⟩, hS.F ht⟩) hS.2.2 dX8_outOf_56
  have hr_1 := hr_1.trans (if_neg hc_2)
  obtain rfl : r_1 = 0 := hr_1
  refine lv_if_ne (tgt := 21) hx hb dX8_outOf_14 (by decide) (fun c9 => absurd c9 (by decide)) (fun _ => ?_)
  refine lv_ldc2 (own := RX8) (index := 286) (v := (-3)) hx hb hown (hts _ mw_942) dX8_outOf_17 ?_
  have hP9 := hP.sub (ws' := []) [] rfl
  have hD9 := hD.sub (ws' := []) [] (by decide) rfl
  exact W.lret (v := (-3)) hx hb hr (fun t ht hW => ⟨⟨(-3), (), rfl, (by (repeat' split) <;> first | rfl | (exfalso; omega)), by rw [ht]; exact hP9, hD9⟩, hS.F ht⟩) hS.2.2 dX8_outOf_20
set_option maxHeartbeats 4000000 in
set_option maxRecDepth 100000 in
theorem c_M_open (l : Launch) (D : va_G) (k : Nat → ClassId) (mm : Nat → Nat) (f : Nat → Int32) (a : Int32) (sz : Nat) (hf0 : f 0 = 0) : Met l yX8_open (Cond.code yX8_open cX8_open 8 (some .int) :: wsL_law) ({ frames := 1, cells := 0, slots := 0, locals := 60 } : Room) (va_Pc [.ref (mm 0), .int a] (pu D k sz [((mm 0), .inr (7, [.int 0, .ref (mm 1), .ref (mm 2), .ref (mm 3), .ref (mm 4), .ref (mm 5), .int 0, .int 0, .int 0, .int 0, .int 0, .int 0, .int 0, .int 0, .int 0, .int (-1), .int 0, .ref (mm 6), .int 0, .ref (mm 7), .ref (mm 8), .ref (mm 9), .int 0, .ref (mm 10), .ref (mm 11), .int 0, .int 0, .ref (mm 12), .ref (mm 13), .int 0, .ref (mm 14), .ref (mm 15), .ref (mm 16)])), ((mm 1), .inl (k 0, 1227, .inl f))])) (va_Qi (fun rr (uu : Unit) => rr = if 1 ≤ a.toInt ∧ a.toInt ≤ 6 then (-1) else (-3)) (qu D (va_A [((mm 0), .inr (7, [.int 0, .ref (mm 1), .ref (mm 2), .ref (mm 3), .ref (mm 4), .ref (mm 5), .int 0, .int 0, .int 0, .int 0, .int 0, .int 0, .int 0, .int 0, .int 0, .int (-1), .int 0, .ref (mm 6), .int 0, .ref (mm 7), .ref (mm 8), .ref (mm 9), .int 0, .ref (mm 10), .ref (mm 11), .int 0, .int 0, .ref (mm 12), .ref (mm 13), .int 0, .ref (mm 14), .ref (mm 15), .ref (mm 16)])), ((mm 1), .inl (k 0, 1227, .inl f))] sz) (fun uu : Unit => [])) (va_A [((mm 0), .inr (7, [.int 0, .ref (mm 1), .ref (mm 2), .ref (mm 3), .ref (mm 4), .ref (mm 5), .int 0, .int 0, .int 0, .int 0, .int 0, .int 0, .int 0, .int 0, .int 0, .int (-1), .int 0, .ref (mm 6), .int 0, .ref (mm 7), .ref (mm 8), .ref (mm 9), .int 0, .ref (mm 10), .ref (mm 11), .int 0, .int 0, .ref (mm 12), .ref (mm 13), .int 0, .ref (mm 14), .ref (mm 15), .ref (mm 16)])), ((mm 1), .inl (k 0, 1227, .inl f))] sz)) 0 0 (va_A [((mm 0), .inr (7, [.int 0, .ref (mm 1), .ref (mm 2), .ref (mm 3), .ref (mm 4), .ref (mm 5), .int 0, .int 0, .int 0, .int 0, .int 0, .int 0, .int 0, .int 0, .int 0, .int (-1), .int 0, .ref (mm 6), .int 0, .ref (mm 7), .ref (mm 8), .ref (mm 9), .int 0, .ref (mm 10), .ref (mm 11), .int 0, .int 0, .ref (mm 12), .ref (mm 13), .int 0, .ref (mm 14), .ref (mm 15), .ref (mm 16)])), ((mm 1), .inl (k 0, 1227, .inl f))] sz) := by
  refine Met.ofW (cc := cX8_open) (maxL := 8) (ret := (some .int)) (by decide) rfl ?_
  intro p e s m args below meth c s₁ B hml hv
  obtain ⟨rfl, hsz, hP, hK, hD0⟩ := hv
  have hx := B.exec
  have hb := B.bytes
  have hr := B.returns
  have hts : ∀ w ∈ wsL_law, w.before _ s = true := fun w h => atoms_spec (ws := Cond.code yX8_open cX8_open 8 (some .int) :: wsL_law) B.pre w (List.mem_cons_of_mem _ h)
  have hown : s.vm.findClass RX8 = some m.cls := findClass_of_methodNamed B.named
  have hlocks := B.notSynchronized
  subst hsz
  have hD := hD0.self (sz := s.heap.size)
  generalize hAe : va_A [((mm 0), .inr (7, [.int 0, .ref (mm 1), .ref (mm 2), .ref (mm 3), .ref (mm 4), .ref (mm 5), .int 0, .int 0, .int 0, .int 0, .int 0, .int 0, .int 0, .int 0, .int 0, .int (-1), .int 0, .ref (mm 6), .int 0, .ref (mm 7), .ref (mm 8), .ref (mm 9), .int 0, .ref (mm 10), .ref (mm 11), .int 0, .int 0, .ref (mm 12), .ref (mm 13), .int 0, .ref (mm 14), .ref (mm 15), .ref (mm 16)])), ((mm 1), .inl (k 0, 1227, .inl f))] s.heap.size = A at hD ⊢
  have hA : ∀ q : Nat, s.heap.size ≤ q → A q := fun q h => by rw [← hAe]; exact Or.inr h
  have hS : va_S A s.heap s.heap [] := va_S.rf
  have hP : va_P D vwCl [((mm 0), .inr (7, [.int 0, .ref (mm 1), .ref (mm 2), .ref (mm 3), .ref (mm 4), .ref (mm 5), .int 0, .int 0, .int 0, .int 0, .int 0, .int 0, .int 0, .int 0, .int 0, .int (-1), .int 0, .ref (mm 6), .int 0, .ref (mm 7), .ref (mm 8), .ref (mm 9), .int 0, .ref (mm 10), .ref (mm 11), .int 0, .int 0, .ref (mm 12), .ref (mm 13), .int 0, .ref (mm 14), .ref (mm 15), .ref (mm 16)])), ((mm 1), .inl (k 0, 1227, .inl f))] s.heap := hP
  have hl := lv_entry ([.ref (mm 0), .int a]) (n := 8) (Nat.le_of_ble_eq_true rfl)
  rw [lg_entry_eq]
  generalize (lg_sl ([.ref (mm 0), .int a]) ++ List.replicate (8 - (lg_sl ([.ref (mm 0), .int a])).length) Slot.unset).toArray = ls at hl ⊢
  have hl : lv_has ls 8 [(0, .ref (mm 0)), (1, .int a)] := hl
  refine lv_aload_n hx hb dX8_open_0 rfl (lv_at hl 0 rfl) ?_
  refine lv_iconst (v := 0) hx hb dX8_open_1 (by decide) ?_
  refine va_put (D := D) (ci := 7) (v := .int 0) (ty := .int) (C := RX8) (T := TX8) (N := 33) hx hb hts inlX8 tyX8 tyX8_ok nmX8 hown hK hP hD hS 0 rfl rfl 0 (by decide) (hts _ mw_125) (fun _ h9 => h9) rfl (by decide +kernel) rfl rfl (Nat.le_of_ble_eq_true rfl) dX8_open_2 (fun H locs hP hD hS => ?_)
  have hP : va_P D vwCl [((mm 0), .inr (7, [.int 0, .ref (mm 1), .ref (mm 2), .ref (mm 3), .ref (mm 4), .ref (mm 5), .int 0, .int 0, .int 0, .int 0, .int 0, .int 0, .int 0, .int 0, .int 0, .int (-1), .int 0, .ref (mm 6), .int 0, .ref (mm 7), .ref (mm 8), .ref (mm 9), .int 0, .ref (mm 10), .ref (mm 11), .int 0, .int 0, .ref (mm 12), .ref (mm 13), .int 0, .ref (mm 14), .ref (mm 15), .ref (mm 16)])), ((mm 1), .inl (k 0, 1227, .inl f))] H := hP
  have hD : va_D A [((mm 0), .inr (7, [.int 0, .ref (mm 1), .ref (mm 2), .ref (mm 3), .ref (mm 4), .ref (mm 5), .int 0, .int 0, .int 0, .int 0, .int 0, .int 0, .int 0, .int 0, .int 0, .int (-1), .int 0, .ref (mm 6), .int 0, .ref (mm 7), .ref (mm 8), .ref (mm 9), .int 0, .ref (mm 10), .ref (mm 11), .int 0, .int 0, .ref (mm 12), .ref (mm 13), .int 0, .ref (mm 14), .ref (mm 15), .ref (mm 16)])), ((mm 1), .inl (k 0, 1227, .inl f))] := hD
  refine lv_iload_n hx hb dX8_open_5 rfl (lv_at hl 1 rfl) ?_
  refine lv_i2l (v := a.toInt64) hx hb dX8_open_6 rfl ?_
  refine lv_lconst (v := 1) hx hb dX8_open_7 (by decide) ?_
  refine lv_ldc2 (own := RX8) (index := 179) (v := 6) hx hb hown (hts _ mw_459) dX8_open_8 ?_
  refine kS_i (As := [.long a.toInt64, .long 1, .long 6]) (rest := []) (cs := []) ⟨hx, hb, hml, hown, hts⟩ (c_M_within l D k a 1 6) (gS mw_294 mw_295 mw_5 mw_296) hd_yX8_within rfl rfl ⟨Nat.le_of_ble_eq_true rfl, Nat.le_of_ble_eq_true rfl⟩ hK (hP.sub (ws' := []) [] rfl) rfl hl.1 rfl (Nat.le_of_ble_eq_true rfl) dX8_open_11 ⟨Nat.le_of_ble_eq_true rfl, Nat.le_of_ble_eq_true rfl⟩ (fun r_1 hr_1 => ?_)
  by_cases hc_2 : 1 ≤ a.toInt ∧ a.toInt ≤ 6
  · obtain rfl : r_1 = 1 := hr_1.trans (if_pos hc_2)
    refine lv_if_ne (tgt := 20) hx hb dX8_open_14 (by decide) (fun _ => ?_) (fun c9 => absurd c9 (by decide))
    refine lv_aload_n hx hb dX8_open_20 rfl (lv_at hl 0 rfl) ?_
    refine lv_sipush (v := 289) hx hb dX8_open_21 (by decide) ?_
    refine kV_i (q0 := 0) (As := [.int 289]) (rest := []) (cs := [((mm 0), .inr (7, [.int 0, .ref (mm 1), .ref (mm 2), .ref (mm 3), .ref (mm 4), .ref (mm 5), .int 0, .int 0, .int 0, .int 0, .int 0, .int 0, .int 0, .int 0, .int 0, .int (-1), .int 0, .ref (mm 6), .int 0, .ref (mm 7), .ref (mm 8), .ref (mm 9), .int 0, .ref (mm 10), .ref (mm 11), .int 0, .int 0, .ref (mm 12), .ref (mm 13), .int 0, .ref (mm 14), .ref (mm 15), .ref (mm 16)])), ((mm 1), .inl (k 0, 1227, .inl f))]) ⟨hx, hb, hml, hown, hts⟩ (c_M_sumAll l D k _ 0 f 289 hf0) (gV mw_847 mw_848 mw_849 mw_5 mw_850) hd_yX8_sumAll rfl rfl ⟨Nat.le_of_ble_eq_true rfl, Nat.le_of_ble_eq_true rfl⟩ hK (hP.sub (ws' := [((mm 0), .inr (7, [.int 0, .ref (mm 1), .ref (mm 2), .ref (mm 3), .ref (mm 4), .ref (mm 5), .int 0, .int 0, .int 0, .int 0, .int 0, .int 0, .int 0, .int 0, .int 0, .int (-1), .int 0, .ref (mm 6), .int 0, .ref (mm 7), .ref (mm 8), .ref (mm 9), .int 0, .ref (mm 10), .ref (mm 11), .int 0, .int 0, .ref (mm 12), .ref (mm 13), .int 0, .ref (mm 14), .ref (mm 15), .ref (mm 16)])), ((mm 1), .inl (k 0, 1227, .inl f))]) [0, 1] rfl) rfl rfl rfl rfl hl.1 rfl (Nat.le_of_ble_eq_true rfl) dX8_open_24 ⟨Nat.le_of_ble_eq_true rfl, Nat.le_of_ble_eq_true rfl⟩ (fun r_3 hr_3 => ?_)
    obtain rfl : r_3 = 0 := hr_3
    refine lv_iconst (v := 3) hx hb dX8_open_27 (by decide) ?_
    refine lv_icmp_le (tgt := 34) hx hb dX8_open_28 (by decide) (fun _ => ?_) (fun c9 => absurd c9 (by decide))
    refine lv_iconst (v := (-1)) hx hb dX8_open_34 (by decide) ?_
    refine lv_istore_n (lv' := [(2, .int (-1)), (0, .ref (mm 0)), (1, .int a)]) hx hb dX8_open_35 rfl hl (by decide) rfl (fun ls hl => ?_)
    refine lv_lconst (v := 0) hx hb dX8_open_36 (by decide) ?_
    refine lv_lstore_n (lv' := [(3, .long 0), (2, .int (-1)), (0, .ref (mm 0)), (1, .int a)]) hx hb dX8_open_37 rfl hl (by decide) rfl (fun ls hl => ?_)
    refine lv_iconst (v := 0) hx hb dX8_open_38 (by decide) ?_
    refine lv_istore (lv' := [(5, .int 0), (3, .long 0), (2, .int (-1)), (0, .ref (mm 0)), (1, .int a)]) hx hb dX8_open_39 hl (by decide) rfl (fun ls hl => ?_)
    refine lv_iload hx hb dX8_open_41 (lv_at hl 0 rfl) ?_
    refine lv_aload_n hx hb dX8_open_43 rfl (lv_at hl 3 rfl) ?_
    refine va_get (D := D) (ci := 7) (v := .ref (mm 1)) (C := RX8) (T := TX8) (N := 33) hx hb hts inlX8 hown hK hP 0 rfl rfl 1 (by decide) (hts _ mw_91) (fun _ h9 => h9) rfl dX8_open_44 ?_
    refine lv_iconst (v := 0) hx hb dX8_open_47 (by decide) ?_
    refine va_iald hx hb hK hP 1 0 rfl rfl (vp_in_c (by decide)) dX8_open_48 ?_
    refine lv_ni (v := 0) (hf0) ?_
    refine lv_icmp_ge (tgt := 83) hx hb dX8_open_49 (by decide) (fun _ => ?_) (fun c9 => absurd c9 (by decide))
    refine lv_iload_n hx hb dX8_open_83 rfl (lv_at hl 2 rfl) ?_
    have hP9 := hP.sub (ws' := []) [] rfl
    have hD9 := hD.sub (ws' := []) [] (by decide) rfl
    exact W.iret (v := (-1)) hx hb hr (fun t ht hW => ⟨⟨(-1), (), rfl, (by (repeat' split) <;> first | rfl | (exfalso; omega)), by rw [ht]; exact hP9, hD9⟩, hS.F ht⟩) hS.2.2 dX8_open_84
  have hr_1 := hr_1.trans (if_neg hc_2)
  obtain rfl : r_1 = 0 := hr_1
  refine lv_if_ne (tgt := 20) hx hb dX8_open_14 (by decide) (fun c9 => absurd c9 (by decide)) (fun _ => ?_)
  refine lv_bipush (v := (-3)) hx hb dX8_open_17 (by decide) ?_
  have hP9 := hP.sub (ws' := []) [] rfl
  have hD9 := hD.sub (ws' := []) [] (by decide) rfl
  exact W.iret (v := (-3)) hx hb hr (fun t ht hW => ⟨⟨(-3), (), rfl, (by (repeat' split) <;> first | rfl | (exfalso; omega)), by rw [ht]; exact hP9, hD9⟩, hS.F ht⟩) hS.2.2 dX8_open_19
set_option maxHeartbeats 4000000 in
set_option maxRecDepth 100000 in
theorem c_M_order (l : Launch) (D : va_G) (k : Nat → ClassId) (mm : Nat → Nat) (rs : Nat → Int32) (a : Int32) (x : Int32) (sz : Nat) (hs0 : rs 0 = -1) (hs1 : rs 1 = -1) (hs2 : rs 2 = -1) (hs3 : rs 3 = -1) : Met l yX8_order (Cond.code yX8_order cX8_order 3 (some .int) :: wsL_law) ({ frames := 1, cells := 0, slots := 0, locals := 60 } : Room) (va_Pc [.ref (mm 0), .int a, .int x] (pu D k sz [((mm 0), .inr (7, [.int 0, .ref (mm 1), .ref (mm 2), .ref (mm 3), .ref (mm 4), .ref (mm 5), .int 0, .int 0, .int 0, .int 0, .int 0, .int 0, .int 0, .int 0, .int 0, .int (-1), .int 0, .ref (mm 6), .int 0, .ref (mm 7), .ref (mm 8), .ref (mm 9), .int 0, .ref (mm 10), .ref (mm 11), .int 0, .int 0, .ref (mm 12), .ref (mm 13), .int 0, .ref (mm 14), .ref (mm 15), .ref (mm 16)])), ((mm 14), .inl (k 0, 4, .inl rs))])) (va_Qi (fun rr (uu : Unit) => rr = if (0 ≤ a.toInt ∧ a.toInt ≤ 3) ∧ (x.toInt = 0 ∨ (10 ≤ x.toInt ∧ x.toInt ≤ 19)) then (-6) else (-2)) (qu D (va_A [((mm 0), .inr (7, [.int 0, .ref (mm 1), .ref (mm 2), .ref (mm 3), .ref (mm 4), .ref (mm 5), .int 0, .int 0, .int 0, .int 0, .int 0, .int 0, .int 0, .int 0, .int 0, .int (-1), .int 0, .ref (mm 6), .int 0, .ref (mm 7), .ref (mm 8), .ref (mm 9), .int 0, .ref (mm 10), .ref (mm 11), .int 0, .int 0, .ref (mm 12), .ref (mm 13), .int 0, .ref (mm 14), .ref (mm 15), .ref (mm 16)])), ((mm 14), .inl (k 0, 4, .inl rs))] sz) (fun uu : Unit => [])) (va_A [((mm 0), .inr (7, [.int 0, .ref (mm 1), .ref (mm 2), .ref (mm 3), .ref (mm 4), .ref (mm 5), .int 0, .int 0, .int 0, .int 0, .int 0, .int 0, .int 0, .int 0, .int 0, .int (-1), .int 0, .ref (mm 6), .int 0, .ref (mm 7), .ref (mm 8), .ref (mm 9), .int 0, .ref (mm 10), .ref (mm 11), .int 0, .int 0, .ref (mm 12), .ref (mm 13), .int 0, .ref (mm 14), .ref (mm 15), .ref (mm 16)])), ((mm 14), .inl (k 0, 4, .inl rs))] sz)) 0 0 (va_A [((mm 0), .inr (7, [.int 0, .ref (mm 1), .ref (mm 2), .ref (mm 3), .ref (mm 4), .ref (mm 5), .int 0, .int 0, .int 0, .int 0, .int 0, .int 0, .int 0, .int 0, .int 0, .int (-1), .int 0, .ref (mm 6), .int 0, .ref (mm 7), .ref (mm 8), .ref (mm 9), .int 0, .ref (mm 10), .ref (mm 11), .int 0, .int 0, .ref (mm 12), .ref (mm 13), .int 0, .ref (mm 14), .ref (mm 15), .ref (mm 16)])), ((mm 14), .inl (k 0, 4, .inl rs))] sz) := by
  refine Met.ofW (cc := cX8_order) (maxL := 3) (ret := (some .int)) (by decide) rfl ?_
  intro p e s m args below meth c s₁ B hml hv
  obtain ⟨rfl, hsz, hP, hK, hD0⟩ := hv
  have hx := B.exec
  have hb := B.bytes
  have hr := B.returns
  have hts : ∀ w ∈ wsL_law, w.before _ s = true := fun w h => atoms_spec (ws := Cond.code yX8_order cX8_order 3 (some .int) :: wsL_law) B.pre w (List.mem_cons_of_mem _ h)
  have hown : s.vm.findClass RX8 = some m.cls := findClass_of_methodNamed B.named
  have hlocks := B.notSynchronized
  subst hsz
  have hD := hD0.self (sz := s.heap.size)
  generalize hAe : va_A [((mm 0), .inr (7, [.int 0, .ref (mm 1), .ref (mm 2), .ref (mm 3), .ref (mm 4), .ref (mm 5), .int 0, .int 0, .int 0, .int 0, .int 0, .int 0, .int 0, .int 0, .int 0, .int (-1), .int 0, .ref (mm 6), .int 0, .ref (mm 7), .ref (mm 8), .ref (mm 9), .int 0, .ref (mm 10), .ref (mm 11), .int 0, .int 0, .ref (mm 12), .ref (mm 13), .int 0, .ref (mm 14), .ref (mm 15), .ref (mm 16)])), ((mm 14), .inl (k 0, 4, .inl rs))] s.heap.size = A at hD ⊢
  have hA : ∀ q : Nat, s.heap.size ≤ q → A q := fun q h => by rw [← hAe]; exact Or.inr h
  have hS : va_S A s.heap s.heap [] := va_S.rf
  have hP : va_P D vwCl [((mm 0), .inr (7, [.int 0, .ref (mm 1), .ref (mm 2), .ref (mm 3), .ref (mm 4), .ref (mm 5), .int 0, .int 0, .int 0, .int 0, .int 0, .int 0, .int 0, .int 0, .int 0, .int (-1), .int 0, .ref (mm 6), .int 0, .ref (mm 7), .ref (mm 8), .ref (mm 9), .int 0, .ref (mm 10), .ref (mm 11), .int 0, .int 0, .ref (mm 12), .ref (mm 13), .int 0, .ref (mm 14), .ref (mm 15), .ref (mm 16)])), ((mm 14), .inl (k 0, 4, .inl rs))] s.heap := hP
  have hl := lv_entry ([.ref (mm 0), .int a, .int x]) (n := 3) (Nat.le_of_ble_eq_true rfl)
  rw [lg_entry_eq]
  generalize (lg_sl ([.ref (mm 0), .int a, .int x]) ++ List.replicate (3 - (lg_sl ([.ref (mm 0), .int a, .int x])).length) Slot.unset).toArray = ls at hl ⊢
  have hl : lv_has ls 3 [(0, .ref (mm 0)), (1, .int a), (2, .int x)] := hl
  refine lv_aload_n hx hb dX8_order_0 rfl (lv_at hl 0 rfl) ?_
  refine lv_iconst (v := 0) hx hb dX8_order_1 (by decide) ?_
  refine va_put (D := D) (ci := 7) (v := .int 0) (ty := .int) (C := RX8) (T := TX8) (N := 33) hx hb hts inlX8 tyX8 tyX8_ok nmX8 hown hK hP hD hS 0 rfl rfl 0 (by decide) (hts _ mw_125) (fun _ h9 => h9) rfl (by decide +kernel) rfl rfl (Nat.le_of_ble_eq_true rfl) dX8_order_2 (fun H locs hP hD hS => ?_)
  have hP : va_P D vwCl [((mm 0), .inr (7, [.int 0, .ref (mm 1), .ref (mm 2), .ref (mm 3), .ref (mm 4), .ref (mm 5), .int 0, .int 0, .int 0, .int 0, .int 0, .int 0, .int 0, .int 0, .int 0, .int (-1), .int 0, .ref (mm 6), .int 0, .ref (mm 7), .ref (mm 8), .ref (mm 9), .int 0, .ref (mm 10), .ref (mm 11), .int 0, .int 0, .ref (mm 12), .ref (mm 13), .int 0, .ref (mm 14), .ref (mm 15), .ref (mm 16)])), ((mm 14), .inl (k 0, 4, .inl rs))] H := hP
  have hD : va_D A [((mm 0), .inr (7, [.int 0, .ref (mm 1), .ref (mm 2), .ref (mm 3), .ref (mm 4), .ref (mm 5), .int 0, .int 0, .int 0, .int 0, .int 0, .int 0, .int 0, .int 0, .int 0, .int (-1), .int 0, .ref (mm 6), .int 0, .ref (mm 7), .ref (mm 8), .ref (mm 9), .int 0, .ref (mm 10), .ref (mm 11), .int 0, .int 0, .ref (mm 12), .ref (mm 13), .int 0, .ref (mm 14), .ref (mm 15), .ref (mm 16)])), ((mm 14), .inl (k 0, 4, .inl rs))] := hD
  refine lv_iload_n hx hb dX8_order_5 rfl (lv_at hl 1 rfl) ?_
  refine lv_i2l (v := a.toInt64) hx hb dX8_order_6 rfl ?_
  refine lv_lconst (v := 0) hx hb dX8_order_7 (by decide) ?_
  refine lv_ldc2 (own := RX8) (index := 220) (v := 3) hx hb hown (hts _ mw_592) dX8_order_8 ?_
  refine kS_i (As := [.long a.toInt64, .long 0, .long 3]) (rest := []) (cs := []) ⟨hx, hb, hml, hown, hts⟩ (c_M_within l D k a 0 3) (gS mw_294 mw_295 mw_5 mw_296) hd_yX8_within rfl rfl ⟨Nat.le_of_ble_eq_true rfl, Nat.le_of_ble_eq_true rfl⟩ hK (hP.sub (ws' := []) [] rfl) rfl hl.1 rfl (Nat.le_of_ble_eq_true rfl) dX8_order_11 ⟨Nat.le_of_ble_eq_true rfl, Nat.le_of_ble_eq_true rfl⟩ (fun r_1 hr_1 => ?_)
  by_cases hc_2 : 0 ≤ a.toInt ∧ a.toInt ≤ 3
  · obtain rfl : r_1 = 1 := hr_1.trans (if_pos hc_2)
    refine lv_if_eq (tgt := 35) hx hb dX8_order_14 (by decide) (fun c9 => absurd c9 (by decide)) (fun _ => ?_)
    refine lv_iload_n hx hb dX8_order_17 rfl (lv_at hl 2 rfl) ?_
    refine lv_if_eq (tgt := 38) hx hb dX8_order_18 (by decide) (fun c_3 => ?_) (fun c_3 => ?_)
    · have c_3 : x.toInt = 0 := ti_eq c_3
      have qc_3 : x = 0 := ti_of (show x.toInt = 0 from by omega)
      refine lv_aload_n hx hb dX8_order_38 rfl (lv_at hl 0 rfl) ?_
      refine va_get (D := D) (ci := 7) (v := .ref (mm 14)) (C := RX8) (T := TX8) (N := 33) hx hb hts inlX8 hown hK hP 0 rfl rfl 30 (by decide) (hts _ mw_105) (fun _ h9 => h9) rfl dX8_order_39 ?_
      refine lv_iload_n hx hb dX8_order_42 rfl (lv_at hl 1 rfl) ?_
      rcases (show a.toInt = 0 ∨ a.toInt = 1 ∨ a.toInt = 2 ∨ a.toInt = 3 from by omega) with c_4 | c_5 | c_6 | c_7
      · have qc_4 : a = 0 := ti_of (show a.toInt = 0 from c_4)
        refine lv_ni (v := 0) qc_4 ?_
        refine va_iald hx hb hK hP 1 0 rfl rfl (vp_in_c (by decide)) dX8_order_43 ?_
        refine lv_ni (v := (-1)) (hs0) ?_
        refine lv_iconst (v := (-1)) hx hb dX8_order_44 (by decide) ?_
        refine lv_icmp_ne (tgt := 51) hx hb dX8_order_45 (by decide) (fun c9 => absurd c9 (by decide)) (fun _ => ?_)
        refine lv_bipush (v := (-6)) hx hb dX8_order_48 (by decide) ?_
        have hP9 := hP.sub (ws' := []) [] rfl
        have hD9 := hD.sub (ws' := []) [] (by decide) rfl
        exact W.iret (v := (-6)) hx hb hr (fun t ht hW => ⟨⟨(-6), (), rfl, (by (repeat' split) <;> first | rfl | (exfalso; omega)), by rw [ht]; exact hP9, hD9⟩, hS.F ht⟩) hS.2.2 dX8_order_50
      · have qc_5 : a = 1 := ti_of (show a.toInt = 1 from c_5)
        refine lv_ni (v := 1) qc_5 ?_
        refine va_iald hx hb hK hP 1 0 rfl rfl (vp_in_c (by decide)) dX8_order_43 ?_
        refine lv_ni (v := (-1)) (hs1) ?_
        refine lv_iconst (v := (-1)) hx hb dX8_order_44 (by decide) ?_
        refine lv_icmp_ne (tgt := 51) hx hb dX8_order_45 (by decide) (fun c9 => absurd c9 (by decide)) (fun _ => ?_)
        refine lv_bipush (v := (-6)) hx hb dX8_order_48 (by decide) ?_
        have hP9 := hP.sub (ws' := []) [] rfl
        have hD9 := hD.sub (ws' := []) [] (by decide) rfl
        exact W.iret (v := (-6)) hx hb hr (fun t ht hW => ⟨⟨(-6), (), rfl, (by (repeat' split) <;> first | rfl | (exfalso; omega)), by rw [ht]; exact hP9, hD9⟩, hS.F ht⟩) hS.2.2 dX8_order_50
      · have qc_6 : a = 2 := ti_of (show a.toInt = 2 from c_6)
        refine lv_ni (v := 2) qc_6 ?_
        refine va_iald hx hb hK hP 1 0 rfl rfl (vp_in_c (by decide)) dX8_order_43 ?_
        refine lv_ni (v := (-1)) (hs2) ?_
        refine lv_iconst (v := (-1)) hx hb dX8_order_44 (by decide) ?_
        refine lv_icmp_ne (tgt := 51) hx hb dX8_order_45 (by decide) (fun c9 => absurd c9 (by decide)) (fun _ => ?_)
        refine lv_bipush (v := (-6)) hx hb dX8_order_48 (by decide) ?_
        have hP9 := hP.sub (ws' := []) [] rfl
        have hD9 := hD.sub (ws' := []) [] (by decide) rfl
        exact W.iret (v := (-6)) hx hb hr (fun t ht hW => ⟨⟨(-6), (), rfl, (by (repeat' split) <;> first | rfl | (exfalso; omega)), by rw [ht]; exact hP9, hD9⟩, hS.F ht⟩) hS.2.2 dX8_order_50
      · have qc_7 : a = 3 := ti_of (show a.toInt = 3 from c_7)
        refine lv_ni (v := 3) qc_7 ?_
        refine va_iald hx hb hK hP 1 0 rfl rfl (vp_in_c (by decide)) dX8_order_43 ?_
        refine lv_ni (v := (-1)) (hs3) ?_
        refine lv_iconst (v := (-1)) hx hb dX8_order_44 (by decide) ?_
        refine lv_icmp_ne (tgt := 51) hx hb dX8_order_45 (by decide) (fun c9 => absurd c9 (by decide)) (fun _ => ?_)
        refine lv_bipush (v := (-6)) hx hb dX8_order_48 (by decide) ?_
        have hP9 := hP.sub (ws' := []) [] rfl
        have hD9 := hD.sub (ws' := []) [] (by decide) rfl
        exact W.iret (v := (-6)) hx hb hr (fun t ht hW => ⟨⟨(-6), (), rfl, (by (repeat' split) <;> first | rfl | (exfalso; omega)), by rw [ht]; exact hP9, hD9⟩, hS.F ht⟩) hS.2.2 dX8_order_50
    · have c_3 : x.toInt ≠ 0 := ti_ne c_3
      refine lv_iload_n hx hb dX8_order_21 rfl (lv_at hl 2 rfl) ?_
      refine lv_i2l (v := x.toInt64) hx hb dX8_order_22 rfl ?_
      refine lv_ldc2 (own := RX8) (index := 258) (v := 10) hx hb hown (hts _ mw_802) dX8_order_23 ?_
      refine lv_ldc2 (own := RX8) (index := 305) (v := 19) hx hb hown (hts _ mw_1010) dX8_order_26 ?_
      refine kS_i (As := [.long x.toInt64, .long 10, .long 19]) (rest := []) (cs := []) ⟨hx, hb, hml, hown, hts⟩ (c_M_within l D k x 10 19) (gS mw_294 mw_295 mw_5 mw_296) hd_yX8_within rfl rfl ⟨Nat.le_of_ble_eq_true rfl, Nat.le_of_ble_eq_true rfl⟩ hK (hP.sub (ws' := []) [] rfl) rfl hl.1 rfl (Nat.le_of_ble_eq_true rfl) dX8_order_29 ⟨Nat.le_of_ble_eq_true rfl, Nat.le_of_ble_eq_true rfl⟩ (fun r_8 hr_8 => ?_)
      by_cases hc_9 : 10 ≤ x.toInt ∧ x.toInt ≤ 19
      · obtain rfl : r_8 = 1 := hr_8.trans (if_pos hc_9)
        refine lv_if_ne (tgt := 38) hx hb dX8_order_32 (by decide) (fun _ => ?_) (fun c9 => absurd c9 (by decide))
        refine lv_aload_n hx hb dX8_order_38 rfl (lv_at hl 0 rfl) ?_
        refine va_get (D := D) (ci := 7) (v := .ref (mm 14)) (C := RX8) (T := TX8) (N := 33) hx hb hts inlX8 hown hK hP 0 rfl rfl 30 (by decide) (hts _ mw_105) (fun _ h9 => h9) rfl dX8_order_39 ?_
        refine lv_iload_n hx hb dX8_order_42 rfl (lv_at hl 1 rfl) ?_
        rcases (show a.toInt = 0 ∨ a.toInt = 1 ∨ a.toInt = 2 ∨ a.toInt = 3 from by omega) with c_10 | c_11 | c_12 | c_13
        · have qc_10 : a = 0 := ti_of (show a.toInt = 0 from c_10)
          refine lv_ni (v := 0) qc_10 ?_
          refine va_iald hx hb hK hP 1 0 rfl rfl (vp_in_c (by decide)) dX8_order_43 ?_
          refine lv_ni (v := (-1)) (hs0) ?_
          refine lv_iconst (v := (-1)) hx hb dX8_order_44 (by decide) ?_
          refine lv_icmp_ne (tgt := 51) hx hb dX8_order_45 (by decide) (fun c9 => absurd c9 (by decide)) (fun _ => ?_)
          refine lv_bipush (v := (-6)) hx hb dX8_order_48 (by decide) ?_
          have hP9 := hP.sub (ws' := []) [] rfl
          have hD9 := hD.sub (ws' := []) [] (by decide) rfl
          exact W.iret (v := (-6)) hx hb hr (fun t ht hW => ⟨⟨(-6), (), rfl, (by (repeat' split) <;> first | rfl | (exfalso; omega)), by rw [ht]; exact hP9, hD9⟩, hS.F ht⟩) hS.2.2 dX8_order_50
        · have qc_11 : a = 1 := ti_of (show a.toInt = 1 from c_11)
          refine lv_ni (v := 1) qc_11 ?_
          refine va_iald hx hb hK hP 1 0 rfl rfl (vp_in_c (by decide)) dX8_order_43 ?_
          refine lv_ni (v := (-1)) (hs1) ?_
          refine lv_iconst (v := (-1)) hx hb dX8_order_44 (by decide) ?_
          refine lv_icmp_ne (tgt := 51) hx hb dX8_order_45 (by decide) (fun c9 => absurd c9 (by decide)) (fun _ => ?_)
          refine lv_bipush (v := (-6)) hx hb dX8_order_48 (by decide) ?_
          have hP9 := hP.sub (ws' := []) [] rfl
          have hD9 := hD.sub (ws' := []) [] (by decide) rfl
          exact W.iret (v := (-6)) hx hb hr (fun t ht hW => ⟨⟨(-6), (), rfl, (by (repeat' split) <;> first | rfl | (exfalso; omega)), by rw [ht]; exact hP9, hD9⟩, hS.F ht⟩) hS.2.2 dX8_order_50
        · have qc_12 : a = 2 := ti_of (show a.toInt = 2 from c_12)
          refine lv_ni (v := 2) qc_12 ?_
          refine va_iald hx hb hK hP 1 0 rfl rfl (vp_in_c (by decide)) dX8_order_43 ?_
          refine lv_ni (v := (-1)) (hs2) ?_
          refine lv_iconst (v := (-1)) hx hb dX8_order_44 (by decide) ?_
          refine lv_icmp_ne (tgt := 51) hx hb dX8_order_45 (by decide) (fun c9 => absurd c9 (by decide)) (fun _ => ?_)
          refine lv_bipush (v := (-6)) hx hb dX8_order_48 (by decide) ?_
          have hP9 := hP.sub (ws' := []) [] rfl
          have hD9 := hD.sub (ws' := []) [] (by decide) rfl
          exact W.iret (v := (-6)) hx hb hr (fun t ht hW => ⟨⟨(-6), (), rfl, (by (repeat' split) <;> first | rfl | (exfalso; omega)), by rw [ht]; exact hP9, hD9⟩, hS.F ht⟩) hS.2.2 dX8_order_50
        · have qc_13 : a = 3 := ti_of (show a.toInt = 3 from c_13)
          refine lv_ni (v := 3) qc_13 ?_
          refine va_iald hx hb hK hP 1 0 rfl rfl (vp_in_c (by decide)) dX8_order_43 ?_
          refine lv_ni (v := (-1)) (hs3) ?_
          refine lv_iconst (v := (-1)) hx hb dX8_order_44 (by decide) ?_
          refine lv_icmp_ne (tgt := 51) hx hb dX8_order_45 (by decide) (fun c9 => absurd c9 (by decide)) (fun _ => ?_)
          refine lv_bipush (v := (-6)) hx hb dX8_order_48 (by decide) ?_
          have hP9 := hP.sub (ws' := []) [] rfl
          have hD9 := hD.sub (ws' := []) [] (by decide) rfl
          exact W.iret (v := (-6)) hx hb hr (fun t ht hW => ⟨⟨(-6), (), rfl, (by (repeat' split) <;> first | rfl | (exfalso; omega)), by rw [ht]; exact hP9, hD9⟩, hS.F ht⟩) hS.2.2 dX8_order_50
      have hr_8 := hr_8.trans (if_neg hc_9)
      obtain rfl : r_8 = 0 := hr_8
      refine lv_if_ne (tgt := 38) hx hb dX8_order_32 (by decide) (fun c9 => absurd c9 (by decide)) (fun _ => ?_)
      refine lv_bipush (v := (-2)) hx hb dX8_order_35 (by decide) ?_
      have hP9 := hP.sub (ws' := []) [] rfl
      have hD9 := hD.sub (ws' := []) [] (by decide) rfl
      exact W.iret (v := (-2)) hx hb hr (fun t ht hW => ⟨⟨(-2), (), rfl, (by (repeat' split) <;> first | rfl | (exfalso; omega)), by rw [ht]; exact hP9, hD9⟩, hS.F ht⟩) hS.2.2 dX8_order_37
  have hr_1 := hr_1.trans (if_neg hc_2)
  obtain rfl : r_1 = 0 := hr_1
  refine lv_if_eq (tgt := 35) hx hb dX8_order_14 (by decide) (fun _ => ?_) (fun c9 => absurd c9 (by decide))
  refine lv_bipush (v := (-2)) hx hb dX8_order_35 (by decide) ?_
  have hP9 := hP.sub (ws' := []) [] rfl
  have hD9 := hD.sub (ws' := []) [] (by decide) rfl
  exact W.iret (v := (-2)) hx hb hr (fun t ht hW => ⟨⟨(-2), (), rfl, (by (repeat' split) <;> first | rfl | (exfalso; omega)), by rw [ht]; exact hP9, hD9⟩, hS.F ht⟩) hS.2.2 dX8_order_37
set_option maxHeartbeats 4000000 in
set_option maxRecDepth 100000 in
theorem c_M_wetted (l : Launch) (D : va_G) (k : Nat → ClassId) (mm : Nat → Nat) (rs : Nat → Int32) (a : Int32) (x : Int32) (sz : Nat) (hs0 : rs 0 = -1) (hs1 : rs 1 = -1) (hs2 : rs 2 = -1) (hs3 : rs 3 = -1) : Met l yX8_wetted (Cond.code yX8_wetted cX8_wetted 7 (some .int) :: wsL_law) ({ frames := 1, cells := 0, slots := 0, locals := 60 } : Room) (va_Pc [.ref (mm 0), .int a, .int x] (pu D k sz [((mm 0), .inr (7, [.int 0, .ref (mm 1), .ref (mm 2), .ref (mm 3), .ref (mm 4), .ref (mm 5), .int 0, .int 0, .int 0, .int 0, .int 0, .int 0, .int 0, .int 0, .int 0, .int (-1), .int 0, .ref (mm 6), .int 0, .ref (mm 7), .ref (mm 8), .ref (mm 9), .int 0, .ref (mm 10), .ref (mm 11), .int 0, .int 0, .ref (mm 12), .ref (mm 13), .int 0, .ref (mm 14), .ref (mm 15), .ref (mm 16)])), ((mm 14), .inl (k 0, 4, .inl rs))])) (va_Qi (fun rr (uu : Unit) => rr = if (0 ≤ a.toInt ∧ a.toInt ≤ 3) ∧ 0 ≤ x.toInt ∧ x.toInt ≤ 3 then (-6) else (-2)) (qu D (va_A [((mm 0), .inr (7, [.int 0, .ref (mm 1), .ref (mm 2), .ref (mm 3), .ref (mm 4), .ref (mm 5), .int 0, .int 0, .int 0, .int 0, .int 0, .int 0, .int 0, .int 0, .int 0, .int (-1), .int 0, .ref (mm 6), .int 0, .ref (mm 7), .ref (mm 8), .ref (mm 9), .int 0, .ref (mm 10), .ref (mm 11), .int 0, .int 0, .ref (mm 12), .ref (mm 13), .int 0, .ref (mm 14), .ref (mm 15), .ref (mm 16)])), ((mm 14), .inl (k 0, 4, .inl rs))] sz) (fun uu : Unit => [])) (va_A [((mm 0), .inr (7, [.int 0, .ref (mm 1), .ref (mm 2), .ref (mm 3), .ref (mm 4), .ref (mm 5), .int 0, .int 0, .int 0, .int 0, .int 0, .int 0, .int 0, .int 0, .int 0, .int (-1), .int 0, .ref (mm 6), .int 0, .ref (mm 7), .ref (mm 8), .ref (mm 9), .int 0, .ref (mm 10), .ref (mm 11), .int 0, .int 0, .ref (mm 12), .ref (mm 13), .int 0, .ref (mm 14), .ref (mm 15), .ref (mm 16)])), ((mm 14), .inl (k 0, 4, .inl rs))] sz)) 0 0 (va_A [((mm 0), .inr (7, [.int 0, .ref (mm 1), .ref (mm 2), .ref (mm 3), .ref (mm 4), .ref (mm 5), .int 0, .int 0, .int 0, .int 0, .int 0, .int 0, .int 0, .int 0, .int 0, .int (-1), .int 0, .ref (mm 6), .int 0, .ref (mm 7), .ref (mm 8), .ref (mm 9), .int 0, .ref (mm 10), .ref (mm 11), .int 0, .int 0, .ref (mm 12), .ref (mm 13), .int 0, .ref (mm 14), .ref (mm 15), .ref (mm 16)])), ((mm 14), .inl (k 0, 4, .inl rs))] sz) := by
  refine Met.ofW (cc := cX8_wetted) (maxL := 7) (ret := (some .int)) (by decide) rfl ?_
  intro p e s m args below meth c s₁ B hml hv
  obtain ⟨rfl, hsz, hP, hK, hD0⟩ := hv
  have hx := B.exec
  have hb := B.bytes
  have hr := B.returns
  have hts : ∀ w ∈ wsL_law, w.before _ s = true := fun w h => atoms_spec (ws := Cond.code yX8_wetted cX8_wetted 7 (some .int) :: wsL_law) B.pre w (List.mem_cons_of_mem _ h)
  have hown : s.vm.findClass RX8 = some m.cls := findClass_of_methodNamed B.named
  have hlocks := B.notSynchronized
  subst hsz
  have hD := hD0.self (sz := s.heap.size)
  generalize hAe : va_A [((mm 0), .inr (7, [.int 0, .ref (mm 1), .ref (mm 2), .ref (mm 3), .ref (mm 4), .ref (mm 5), .int 0, .int 0, .int 0, .int 0, .int 0, .int 0, .int 0, .int 0, .int 0, .int (-1), .int 0, .ref (mm 6), .int 0, .ref (mm 7), .ref (mm 8), .ref (mm 9), .int 0, .ref (mm 10), .ref (mm 11), .int 0, .int 0, .ref (mm 12), .ref (mm 13), .int 0, .ref (mm 14), .ref (mm 15), .ref (mm 16)])), ((mm 14), .inl (k 0, 4, .inl rs))] s.heap.size = A at hD ⊢
  have hA : ∀ q : Nat, s.heap.size ≤ q → A q := fun q h => by rw [← hAe]; exact Or.inr h
  have hS : va_S A s.heap s.heap [] := va_S.rf
  have hP : va_P D vwCl [((mm 0), .inr (7, [.int 0, .ref (mm 1), .ref (mm 2), .ref (mm 3), .ref (mm 4), .ref (mm 5), .int 0, .int 0, .int 0, .int 0, .int 0, .int 0, .int 0, .int 0, .int 0, .int (-1), .int 0, .ref (mm 6), .int 0, .ref (mm 7), .ref (mm 8), .ref (mm 9), .int 0, .ref (mm 10), .ref (mm 11), .int 0, .int 0, .ref (mm 12), .ref (mm 13), .int 0, .ref (mm 14), .ref (mm 15), .ref (mm 16)])), ((mm 14), .inl (k 0, 4, .inl rs))] s.heap := hP
  have hl := lv_entry ([.ref (mm 0), .int a, .int x]) (n := 7) (Nat.le_of_ble_eq_true rfl)
  rw [lg_entry_eq]
  generalize (lg_sl ([.ref (mm 0), .int a, .int x]) ++ List.replicate (7 - (lg_sl ([.ref (mm 0), .int a, .int x])).length) Slot.unset).toArray = ls at hl ⊢
  have hl : lv_has ls 7 [(0, .ref (mm 0)), (1, .int a), (2, .int x)] := hl
  refine lv_aload_n hx hb dX8_wetted_0 rfl (lv_at hl 0 rfl) ?_
  refine lv_iconst (v := 0) hx hb dX8_wetted_1 (by decide) ?_
  refine va_put (D := D) (ci := 7) (v := .int 0) (ty := .int) (C := RX8) (T := TX8) (N := 33) hx hb hts inlX8 tyX8 tyX8_ok nmX8 hown hK hP hD hS 0 rfl rfl 0 (by decide) (hts _ mw_125) (fun _ h9 => h9) rfl (by decide +kernel) rfl rfl (Nat.le_of_ble_eq_true rfl) dX8_wetted_2 (fun H locs hP hD hS => ?_)
  have hP : va_P D vwCl [((mm 0), .inr (7, [.int 0, .ref (mm 1), .ref (mm 2), .ref (mm 3), .ref (mm 4), .ref (mm 5), .int 0, .int 0, .int 0, .int 0, .int 0, .int 0, .int 0, .int 0, .int 0, .int (-1), .int 0, .ref (mm 6), .int 0, .ref (mm 7), .ref (mm 8), .ref (mm 9), .int 0, .ref (mm 10), .ref (mm 11), .int 0, .int 0, .ref (mm 12), .ref (mm 13), .int 0, .ref (mm 14), .ref (mm 15), .ref (mm 16)])), ((mm 14), .inl (k 0, 4, .inl rs))] H := hP
  have hD : va_D A [((mm 0), .inr (7, [.int 0, .ref (mm 1), .ref (mm 2), .ref (mm 3), .ref (mm 4), .ref (mm 5), .int 0, .int 0, .int 0, .int 0, .int 0, .int 0, .int 0, .int 0, .int 0, .int (-1), .int 0, .ref (mm 6), .int 0, .ref (mm 7), .ref (mm 8), .ref (mm 9), .int 0, .ref (mm 10), .ref (mm 11), .int 0, .int 0, .ref (mm 12), .ref (mm 13), .int 0, .ref (mm 14), .ref (mm 15), .ref (mm 16)])), ((mm 14), .inl (k 0, 4, .inl rs))] := hD
  refine lv_iload_n hx hb dX8_wetted_5 rfl (lv_at hl 1 rfl) ?_
  refine lv_i2l (v := a.toInt64) hx hb dX8_wetted_6 rfl ?_
  refine lv_lconst (v := 0) hx hb dX8_wetted_7 (by decide) ?_
  refine lv_ldc2 (own := RX8) (index := 220) (v := 3) hx hb hown (hts _ mw_592) dX8_wetted_8 ?_
  refine kS_i (As := [.long a.toInt64, .long 0, .long 3]) (rest := []) (cs := []) ⟨hx, hb, hml, hown, hts⟩ (c_M_within l D k a 0 3) (gS mw_294 mw_295 mw_5 mw_296) hd_yX8_within rfl rfl ⟨Nat.le_of_ble_eq_true rfl, Nat.le_of_ble_eq_true rfl⟩ hK (hP.sub (ws' := []) [] rfl) rfl hl.1 rfl (Nat.le_of_ble_eq_true rfl) dX8_wetted_11 ⟨Nat.le_of_ble_eq_true rfl, Nat.le_of_ble_eq_true rfl⟩ (fun r_1 hr_1 => ?_)
  by_cases hc_2 : 0 ≤ a.toInt ∧ a.toInt ≤ 3
  · obtain rfl : r_1 = 1 := hr_1.trans (if_pos hc_2)
    refine lv_if_eq (tgt := 29) hx hb dX8_wetted_14 (by decide) (fun c9 => absurd c9 (by decide)) (fun _ => ?_)
    refine lv_iload_n hx hb dX8_wetted_17 rfl (lv_at hl 2 rfl) ?_
    refine lv_i2l (v := x.toInt64) hx hb dX8_wetted_18 rfl ?_
    refine lv_lconst (v := 0) hx hb dX8_wetted_19 (by decide) ?_
    refine lv_ldc2 (own := RX8) (index := 220) (v := 3) hx hb hown (hts _ mw_592) dX8_wetted_20 ?_
    refine kS_i (As := [.long x.toInt64, .long 0, .long 3]) (rest := []) (cs := []) ⟨hx, hb, hml, hown, hts⟩ (c_M_within l D k x 0 3) (gS mw_294 mw_295 mw_5 mw_296) hd_yX8_within rfl rfl ⟨Nat.le_of_ble_eq_true rfl, Nat.le_of_ble_eq_true rfl⟩ hK (hP.sub (ws' := []) [] rfl) rfl hl.1 rfl (Nat.le_of_ble_eq_true rfl) dX8_wetted_23 ⟨Nat.le_of_ble_eq_true rfl, Nat.le_of_ble_eq_true rfl⟩ (fun r_3 hr_3 => ?_)
    by_cases hc_4 : 0 ≤ x.toInt ∧ x.toInt ≤ 3
    · obtain rfl : r_3 = 1 := hr_3.trans (if_pos hc_4)
      refine lv_if_ne (tgt := 32) hx hb dX8_wetted_26 (by decide) (fun _ => ?_) (fun c9 => absurd c9 (by decide))
      refine lv_aload_n hx hb dX8_wetted_32 rfl (lv_at hl 0 rfl) ?_
      refine va_get (D := D) (ci := 7) (v := .ref (mm 14)) (C := RX8) (T := TX8) (N := 33) hx hb hts inlX8 hown hK hP 0 rfl rfl 30 (by decide) (hts _ mw_105) (fun _ h9 => h9) rfl dX8_wetted_33 ?_
      refine lv_iload_n hx hb dX8_wetted_36 rfl (lv_at hl 1 rfl) ?_
      rcases (show a.toInt = 0 ∨ a.toInt = 1 ∨ a.toInt = 2 ∨ a.toInt = 3 from by omega) with c_5 | c_6 | c_7 | c_8
      · have qc_5 : a = 0 := ti_of (show a.toInt = 0 from c_5)
        refine lv_ni (v := 0) qc_5 ?_
        refine va_iald hx hb hK hP 1 0 rfl rfl (vp_in_c (by decide)) dX8_wetted_37 ?_
        refine lv_ni (v := (-1)) (hs0) ?_
        refine lv_iconst (v := (-1)) hx hb dX8_wetted_38 (by decide) ?_
        refine lv_icmp_eq (tgt := 52) hx hb dX8_wetted_39 (by decide) (fun _ => ?_) (fun c9 => absurd c9 (by decide))
        refine lv_bipush (v := (-6)) hx hb dX8_wetted_52 (by decide) ?_
        have hP9 := hP.sub (ws' := []) [] rfl
        have hD9 := hD.sub (ws' := []) [] (by decide) rfl
        exact W.iret (v := (-6)) hx hb hr (fun t ht hW => ⟨⟨(-6), (), rfl, (by (repeat' split) <;> first | rfl | (exfalso; omega)), by rw [ht]; exact hP9, hD9⟩, hS.F ht⟩) hS.2.2 dX8_wetted_54
      · have qc_6 : a = 1 := ti_of (show a.toInt = 1 from c_6)
        refine lv_ni (v := 1) qc_6 ?_
        refine va_iald hx hb hK hP 1 0 rfl rfl (vp_in_c (by decide)) dX8_wetted_37 ?_
        refine lv_ni (v := (-1)) (hs1) ?_
        refine lv_iconst (v := (-1)) hx hb dX8_wetted_38 (by decide) ?_
        refine lv_icmp_eq (tgt := 52) hx hb dX8_wetted_39 (by decide) (fun _ => ?_) (fun c9 => absurd c9 (by decide))
        refine lv_bipush (v := (-6)) hx hb dX8_wetted_52 (by decide) ?_
        have hP9 := hP.sub (ws' := []) [] rfl
        have hD9 := hD.sub (ws' := []) [] (by decide) rfl
        exact W.iret (v := (-6)) hx hb hr (fun t ht hW => ⟨⟨(-6), (), rfl, (by (repeat' split) <;> first | rfl | (exfalso; omega)), by rw [ht]; exact hP9, hD9⟩, hS.F ht⟩) hS.2.2 dX8_wetted_54
      · have qc_7 : a = 2 := ti_of (show a.toInt = 2 from c_7)
        refine lv_ni (v := 2) qc_7 ?_
        refine va_iald hx hb hK hP 1 0 rfl rfl (vp_in_c (by decide)) dX8_wetted_37 ?_
        refine lv_ni (v := (-1)) (hs2) ?_
        refine lv_iconst (v := (-1)) hx hb dX8_wetted_38 (by decide) ?_
        refine lv_icmp_eq (tgt := 52) hx hb dX8_wetted_39 (by decide) (fun _ => ?_) (fun c9 => absurd c9 (by decide))
        refine lv_bipush (v := (-6)) hx hb dX8_wetted_52 (by decide) ?_
        have hP9 := hP.sub (ws' := []) [] rfl
        have hD9 := hD.sub (ws' := []) [] (by decide) rfl
        exact W.iret (v := (-6)) hx hb hr (fun t ht hW => ⟨⟨(-6), (), rfl, (by (repeat' split) <;> first | rfl | (exfalso; omega)), by rw [ht]; exact hP9, hD9⟩, hS.F ht⟩) hS.2.2 dX8_wetted_54
      · have qc_8 : a = 3 := ti_of (show a.toInt = 3 from c_8)
        refine lv_ni (v := 3) qc_8 ?_
        refine va_iald hx hb hK hP 1 0 rfl rfl (vp_in_c (by decide)) dX8_wetted_37 ?_
        refine lv_ni (v := (-1)) (hs3) ?_
        refine lv_iconst (v := (-1)) hx hb dX8_wetted_38 (by decide) ?_
        refine lv_icmp_eq (tgt := 52) hx hb dX8_wetted_39 (by decide) (fun _ => ?_) (fun c9 => absurd c9 (by decide))
        refine lv_bipush (v := (-6)) hx hb dX8_wetted_52 (by decide) ?_
        have hP9 := hP.sub (ws' := []) [] rfl
        have hD9 := hD.sub (ws' := []) [] (by decide) rfl
        exact W.iret (v := (-6)) hx hb hr (fun t ht hW => ⟨⟨(-6), (), rfl, (by (repeat' split) <;> first | rfl | (exfalso; omega)), by rw [ht]; exact hP9, hD9⟩, hS.F ht⟩) hS.2.2 dX8_wetted_54
    have hr_3 := hr_3.trans (if_neg hc_4)
    obtain rfl : r_3 = 0 := hr_3
    refine lv_if_ne (tgt := 32) hx hb dX8_wetted_26 (by decide) (fun c9 => absurd c9 (by decide)) (fun _ => ?_)
    refine lv_bipush (v := (-2)) hx hb dX8_wetted_29 (by decide) ?_
    have hP9 := hP.sub (ws' := []) [] rfl
    have hD9 := hD.sub (ws' := []) [] (by decide) rfl
    exact W.iret (v := (-2)) hx hb hr (fun t ht hW => ⟨⟨(-2), (), rfl, (by (repeat' split) <;> first | rfl | (exfalso; omega)), by rw [ht]; exact hP9, hD9⟩, hS.F ht⟩) hS.2.2 dX8_wetted_31
  have hr_1 := hr_1.trans (if_neg hc_2)
  obtain rfl : r_1 = 0 := hr_1
  refine lv_if_eq (tgt := 29) hx hb dX8_wetted_14 (by decide) (fun _ => ?_) (fun c9 => absurd c9 (by decide))
  refine lv_bipush (v := (-2)) hx hb dX8_wetted_29 (by decide) ?_
  have hP9 := hP.sub (ws' := []) [] rfl
  have hD9 := hD.sub (ws' := []) [] (by decide) rfl
  exact W.iret (v := (-2)) hx hb hr (fun t ht hW => ⟨⟨(-2), (), rfl, (by (repeat' split) <;> first | rfl | (exfalso; omega)), by rw [ht]; exact hP9, hD9⟩, hS.F ht⟩) hS.2.2 dX8_wetted_31
set_option maxHeartbeats 4000000 in
set_option maxRecDepth 100000 in
theorem c_M_past (l : Launch) (D : va_G) (k : Nat → ClassId) (mm : Nat → Nat) (a : Int32) (sz : Nat) : Met l yX8_past (Cond.code yX8_past cX8_past 3 (some .int) :: wsL_law) ({ frames := 1, cells := 0, slots := 0, locals := 60 } : Room) (va_Pc [.ref (mm 0), .int a] (pu D k sz [((mm 0), .inr (7, [.int 0, .ref (mm 1), .ref (mm 2), .ref (mm 3), .ref (mm 4), .ref (mm 5), .int 0, .int 0, .int 0, .int 0, .int 0, .int 0, .int 0, .int 0, .int 0, .int (-1), .int 0, .ref (mm 6), .int 0, .ref (mm 7), .ref (mm 8), .ref (mm 9), .int 0, .ref (mm 10), .ref (mm 11), .int 0, .int 0, .ref (mm 12), .ref (mm 13), .int 0, .ref (mm 14), .ref (mm 15), .ref (mm 16)])), ((mm 3), .inl (k 3, 2, .inl (fun _ => 0)))])) (va_Qi (fun rr (uu : Unit) => rr = if 1 ≤ a.toInt ∧ a.toInt ≤ 3 then (-5) else (-3)) (qu D (va_A [((mm 0), .inr (7, [.int 0, .ref (mm 1), .ref (mm 2), .ref (mm 3), .ref (mm 4), .ref (mm 5), .int 0, .int 0, .int 0, .int 0, .int 0, .int 0, .int 0, .int 0, .int 0, .int (-1), .int 0, .ref (mm 6), .int 0, .ref (mm 7), .ref (mm 8), .ref (mm 9), .int 0, .ref (mm 10), .ref (mm 11), .int 0, .int 0, .ref (mm 12), .ref (mm 13), .int 0, .ref (mm 14), .ref (mm 15), .ref (mm 16)])), ((mm 3), .inl (k 3, 2, .inl (fun _ => 0)))] sz) (fun uu : Unit => [])) (va_A [((mm 0), .inr (7, [.int 0, .ref (mm 1), .ref (mm 2), .ref (mm 3), .ref (mm 4), .ref (mm 5), .int 0, .int 0, .int 0, .int 0, .int 0, .int 0, .int 0, .int 0, .int 0, .int (-1), .int 0, .ref (mm 6), .int 0, .ref (mm 7), .ref (mm 8), .ref (mm 9), .int 0, .ref (mm 10), .ref (mm 11), .int 0, .int 0, .ref (mm 12), .ref (mm 13), .int 0, .ref (mm 14), .ref (mm 15), .ref (mm 16)])), ((mm 3), .inl (k 3, 2, .inl (fun _ => 0)))] sz)) 0 0 (va_A [((mm 0), .inr (7, [.int 0, .ref (mm 1), .ref (mm 2), .ref (mm 3), .ref (mm 4), .ref (mm 5), .int 0, .int 0, .int 0, .int 0, .int 0, .int 0, .int 0, .int 0, .int 0, .int (-1), .int 0, .ref (mm 6), .int 0, .ref (mm 7), .ref (mm 8), .ref (mm 9), .int 0, .ref (mm 10), .ref (mm 11), .int 0, .int 0, .ref (mm 12), .ref (mm 13), .int 0, .ref (mm 14), .ref (mm 15), .ref (mm 16)])), ((mm 3), .inl (k 3, 2, .inl (fun _ => 0)))] sz) := by
  refine Met.ofW (cc := cX8_past) (maxL := 3) (ret := (some .int)) (by decide) rfl ?_
  intro p e s m args below meth c s₁ B hml hv
  obtain ⟨rfl, hsz, hP, hK, hD0⟩ := hv
  have hx := B.exec
  have hb := B.bytes
  have hr := B.returns
  have hts : ∀ w ∈ wsL_law, w.before _ s = true := fun w h => atoms_spec (ws := Cond.code yX8_past cX8_past 3 (some .int) :: wsL_law) B.pre w (List.mem_cons_of_mem _ h)
  have hown : s.vm.findClass RX8 = some m.cls := findClass_of_methodNamed B.named
  have hlocks := B.notSynchronized
  subst hsz
  have hD := hD0.self (sz := s.heap.size)
  generalize hAe : va_A [((mm 0), .inr (7, [.int 0, .ref (mm 1), .ref (mm 2), .ref (mm 3), .ref (mm 4), .ref (mm 5), .int 0, .int 0, .int 0, .int 0, .int 0, .int 0, .int 0, .int 0, .int 0, .int (-1), .int 0, .ref (mm 6), .int 0, .ref (mm 7), .ref (mm 8), .ref (mm 9), .int 0, .ref (mm 10), .ref (mm 11), .int 0, .int 0, .ref (mm 12), .ref (mm 13), .int 0, .ref (mm 14), .ref (mm 15), .ref (mm 16)])), ((mm 3), .inl (k 3, 2, .inl (fun _ => 0)))] s.heap.size = A at hD ⊢
  have hA : ∀ q : Nat, s.heap.size ≤ q → A q := fun q h => by rw [← hAe]; exact Or.inr h
  have hS : va_S A s.heap s.heap [] := va_S.rf
  have hP : va_P D vwCl [((mm 0), .inr (7, [.int 0, .ref (mm 1), .ref (mm 2), .ref (mm 3), .ref (mm 4), .ref (mm 5), .int 0, .int 0, .int 0, .int 0, .int 0, .int 0, .int 0, .int 0, .int 0, .int (-1), .int 0, .ref (mm 6), .int 0, .ref (mm 7), .ref (mm 8), .ref (mm 9), .int 0, .ref (mm 10), .ref (mm 11), .int 0, .int 0, .ref (mm 12), .ref (mm 13), .int 0, .ref (mm 14), .ref (mm 15), .ref (mm 16)])), ((mm 3), .inl (k 3, 2, .inl (fun _ => 0)))] s.heap := hP
  have hl := lv_entry ([.ref (mm 0), .int a]) (n := 3) (Nat.le_of_ble_eq_true rfl)
  rw [lg_entry_eq]
  generalize (lg_sl ([.ref (mm 0), .int a]) ++ List.replicate (3 - (lg_sl ([.ref (mm 0), .int a])).length) Slot.unset).toArray = ls at hl ⊢
  have hl : lv_has ls 3 [(0, .ref (mm 0)), (1, .int a)] := hl
  refine lv_aload_n hx hb dX8_past_0 rfl (lv_at hl 0 rfl) ?_
  refine lv_iconst (v := 0) hx hb dX8_past_1 (by decide) ?_
  refine va_put (D := D) (ci := 7) (v := .int 0) (ty := .int) (C := RX8) (T := TX8) (N := 33) hx hb hts inlX8 tyX8 tyX8_ok nmX8 hown hK hP hD hS 0 rfl rfl 0 (by decide) (hts _ mw_125) (fun _ h9 => h9) rfl (by decide +kernel) rfl rfl (Nat.le_of_ble_eq_true rfl) dX8_past_2 (fun H locs hP hD hS => ?_)
  have hP : va_P D vwCl [((mm 0), .inr (7, [.int 0, .ref (mm 1), .ref (mm 2), .ref (mm 3), .ref (mm 4), .ref (mm 5), .int 0, .int 0, .int 0, .int 0, .int 0, .int 0, .int 0, .int 0, .int 0, .int (-1), .int 0, .ref (mm 6), .int 0, .ref (mm 7), .ref (mm 8), .ref (mm 9), .int 0, .ref (mm 10), .ref (mm 11), .int 0, .int 0, .ref (mm 12), .ref (mm 13), .int 0, .ref (mm 14), .ref (mm 15), .ref (mm 16)])), ((mm 3), .inl (k 3, 2, .inl (fun _ => 0)))] H := hP
  have hD : va_D A [((mm 0), .inr (7, [.int 0, .ref (mm 1), .ref (mm 2), .ref (mm 3), .ref (mm 4), .ref (mm 5), .int 0, .int 0, .int 0, .int 0, .int 0, .int 0, .int 0, .int 0, .int 0, .int (-1), .int 0, .ref (mm 6), .int 0, .ref (mm 7), .ref (mm 8), .ref (mm 9), .int 0, .ref (mm 10), .ref (mm 11), .int 0, .int 0, .ref (mm 12), .ref (mm 13), .int 0, .ref (mm 14), .ref (mm 15), .ref (mm 16)])), ((mm 3), .inl (k 3, 2, .inl (fun _ => 0)))] := hD
  refine lv_iload_n hx hb dX8_past_5 rfl (lv_at hl 1 rfl) ?_
  refine lv_i2l (v := a.toInt64) hx hb dX8_past_6 rfl ?_
  refine lv_lconst (v := 1) hx hb dX8_past_7 (by decide) ?_
  refine lv_ldc2 (own := RX8) (index := 220) (v := 3) hx hb hown (hts _ mw_592) dX8_past_8 ?_
  refine kS_i (As := [.long a.toInt64, .long 1, .long 3]) (rest := []) (cs := []) ⟨hx, hb, hml, hown, hts⟩ (c_M_within l D k a 1 3) (gS mw_294 mw_295 mw_5 mw_296) hd_yX8_within rfl rfl ⟨Nat.le_of_ble_eq_true rfl, Nat.le_of_ble_eq_true rfl⟩ hK (hP.sub (ws' := []) [] rfl) rfl hl.1 rfl (Nat.le_of_ble_eq_true rfl) dX8_past_11 ⟨Nat.le_of_ble_eq_true rfl, Nat.le_of_ble_eq_true rfl⟩ (fun r_1 hr_1 => ?_)
  by_cases hc_2 : 1 ≤ a.toInt ∧ a.toInt ≤ 3
  · obtain rfl : r_1 = 1 := hr_1.trans (if_pos hc_2)
    refine lv_if_ne (tgt := 20) hx hb dX8_past_14 (by decide) (fun _ => ?_) (fun c9 => absurd c9 (by decide))
    refine lv_aload_n hx hb dX8_past_20 rfl (lv_at hl 0 rfl) ?_
    refine lv_iload_n hx hb dX8_past_21 rfl (lv_at hl 1 rfl) ?_
    refine kV_i (q0 := 0) (As := [.int a]) (rest := []) (cs := [((mm 0), .inr (7, [.int 0, .ref (mm 1), .ref (mm 2), .ref (mm 3), .ref (mm 4), .ref (mm 5), .int 0, .int 0, .int 0, .int 0, .int 0, .int 0, .int 0, .int 0, .int 0, .int (-1), .int 0, .ref (mm 6), .int 0, .ref (mm 7), .ref (mm 8), .ref (mm 9), .int 0, .ref (mm 10), .ref (mm 11), .int 0, .int 0, .ref (mm 12), .ref (mm 13), .int 0, .ref (mm 14), .ref (mm 15), .ref (mm 16)])), ((mm 3), .inl (k 3, 2, .inl (fun _ => 0)))]) ⟨hx, hb, hml, hown, hts⟩ (c_M_laysPast0 l D k _ a) (gV mw_1084 mw_1085 mw_1086 mw_5 mw_1087) hd_yX8_laysPast rfl rfl ⟨Nat.le_of_ble_eq_true rfl, Nat.le_of_ble_eq_true rfl⟩ hK (hP.sub (ws' := [((mm 0), .inr (7, [.int 0, .ref (mm 1), .ref (mm 2), .ref (mm 3), .ref (mm 4), .ref (mm 5), .int 0, .int 0, .int 0, .int 0, .int 0, .int 0, .int 0, .int 0, .int 0, .int (-1), .int 0, .ref (mm 6), .int 0, .ref (mm 7), .ref (mm 8), .ref (mm 9), .int 0, .ref (mm 10), .ref (mm 11), .int 0, .int 0, .ref (mm 12), .ref (mm 13), .int 0, .ref (mm 14), .ref (mm 15), .ref (mm 16)])), ((mm 3), .inl (k 3, 2, .inl (fun _ => 0)))]) [0, 1] rfl) rfl rfl rfl rfl hl.1 rfl (Nat.le_of_ble_eq_true rfl) dX8_past_22 ⟨Nat.le_of_ble_eq_true rfl, Nat.le_of_ble_eq_true rfl⟩ (fun r_3 hr_3 => ?_)
    obtain rfl : r_3 = (-5) := hr_3
    refine lv_istore_n (lv' := [(2, .int (-5)), (0, .ref (mm 0)), (1, .int a)]) hx hb dX8_past_25 rfl hl (by decide) rfl (fun ls hl => ?_)
    refine lv_iload_n hx hb dX8_past_26 rfl (lv_at hl 0 rfl) ?_
    refine lv_if_eq (tgt := 34) hx hb dX8_past_27 (by decide) (fun c9 => absurd c9 (by decide)) (fun _ => ?_)
    refine lv_iload_n hx hb dX8_past_30 rfl (lv_at hl 0 rfl) ?_
    refine lv_goto (tgt := 38) hx hb dX8_past_31 (by decide) ?_
    have hP9 := hP.sub (ws' := []) [] rfl
    have hD9 := hD.sub (ws' := []) [] (by decide) rfl
    exact W.iret (v := (-5)) hx hb hr (fun t ht hW => ⟨⟨(-5), (), rfl, (by (repeat' split) <;> first | rfl | (exfalso; omega)), by rw [ht]; exact hP9, hD9⟩, hS.F ht⟩) hS.2.2 dX8_past_38
  have hr_1 := hr_1.trans (if_neg hc_2)
  obtain rfl : r_1 = 0 := hr_1
  refine lv_if_ne (tgt := 20) hx hb dX8_past_14 (by decide) (fun c9 => absurd c9 (by decide)) (fun _ => ?_)
  refine lv_bipush (v := (-3)) hx hb dX8_past_17 (by decide) ?_
  have hP9 := hP.sub (ws' := []) [] rfl
  have hD9 := hD.sub (ws' := []) [] (by decide) rfl
  exact W.iret (v := (-3)) hx hb hr (fun t ht hW => ⟨⟨(-3), (), rfl, (by (repeat' split) <;> first | rfl | (exfalso; omega)), by rw [ht]; exact hP9, hD9⟩, hS.F ht⟩) hS.2.2 dX8_past_19
set_option maxHeartbeats 4000000 in
set_option maxRecDepth 100000 in
theorem c_M_sure (l : Launch) (D : va_G) (k : Nat → ClassId) (mm : Nat → Nat) (a : Int32) (x : Int32) (sz : Nat) : Met l yX8_sure (Cond.code yX8_sure cX8_sure 4 (some .int) :: wsL_law) ({ frames := 1, cells := 0, slots := 0, locals := 60 } : Room) (va_Pc [.ref (mm 0), .int a, .int x] (pu D k sz [((mm 0), .inr (7, [.int 0, .ref (mm 1), .ref (mm 2), .ref (mm 3), .ref (mm 4), .ref (mm 5), .int 0, .int 0, .int 0, .int 0, .int 0, .int 0, .int 0, .int 0, .int 0, .int (-1), .int 0, .ref (mm 6), .int 0, .ref (mm 7), .ref (mm 8), .ref (mm 9), .int 0, .ref (mm 10), .ref (mm 11), .int 0, .int 0, .ref (mm 12), .ref (mm 13), .int 0, .ref (mm 14), .ref (mm 15), .ref (mm 16)])), ((mm 3), .inl (k 3, 2, .inl (fun _ => 0)))])) (va_Qi (fun rr (uu : Unit) => rr = if (1 ≤ a.toInt ∧ a.toInt ≤ 3) ∧ 0 ≤ x.toInt ∧ x.toInt < a.toInt then (-5) else (-3)) (qu D (va_A [((mm 0), .inr (7, [.int 0, .ref (mm 1), .ref (mm 2), .ref (mm 3), .ref (mm 4), .ref (mm 5), .int 0, .int 0, .int 0, .int 0, .int 0, .int 0, .int 0, .int 0, .int 0, .int (-1), .int 0, .ref (mm 6), .int 0, .ref (mm 7), .ref (mm 8), .ref (mm 9), .int 0, .ref (mm 10), .ref (mm 11), .int 0, .int 0, .ref (mm 12), .ref (mm 13), .int 0, .ref (mm 14), .ref (mm 15), .ref (mm 16)])), ((mm 3), .inl (k 3, 2, .inl (fun _ => 0)))] sz) (fun uu : Unit => [])) (va_A [((mm 0), .inr (7, [.int 0, .ref (mm 1), .ref (mm 2), .ref (mm 3), .ref (mm 4), .ref (mm 5), .int 0, .int 0, .int 0, .int 0, .int 0, .int 0, .int 0, .int 0, .int 0, .int (-1), .int 0, .ref (mm 6), .int 0, .ref (mm 7), .ref (mm 8), .ref (mm 9), .int 0, .ref (mm 10), .ref (mm 11), .int 0, .int 0, .ref (mm 12), .ref (mm 13), .int 0, .ref (mm 14), .ref (mm 15), .ref (mm 16)])), ((mm 3), .inl (k 3, 2, .inl (fun _ => 0)))] sz)) 0 0 (va_A [((mm 0), .inr (7, [.int 0, .ref (mm 1), .ref (mm 2), .ref (mm 3), .ref (mm 4), .ref (mm 5), .int 0, .int 0, .int 0, .int 0, .int 0, .int 0, .int 0, .int 0, .int 0, .int (-1), .int 0, .ref (mm 6), .int 0, .ref (mm 7), .ref (mm 8), .ref (mm 9), .int 0, .ref (mm 10), .ref (mm 11), .int 0, .int 0, .ref (mm 12), .ref (mm 13), .int 0, .ref (mm 14), .ref (mm 15), .ref (mm 16)])), ((mm 3), .inl (k 3, 2, .inl (fun _ => 0)))] sz) := by
  refine Met.ofW (cc := cX8_sure) (maxL := 4) (ret := (some .int)) (by decide) rfl ?_
  intro p e s m args below meth c s₁ B hml hv
  obtain ⟨rfl, hsz, hP, hK, hD0⟩ := hv
  have hx := B.exec
  have hb := B.bytes
  have hr := B.returns
  have hts : ∀ w ∈ wsL_law, w.before _ s = true := fun w h => atoms_spec (ws := Cond.code yX8_sure cX8_sure 4 (some .int) :: wsL_law) B.pre w (List.mem_cons_of_mem _ h)
  have hown : s.vm.findClass RX8 = some m.cls := findClass_of_methodNamed B.named
  have hlocks := B.notSynchronized
  subst hsz
  have hD := hD0.self (sz := s.heap.size)
  generalize hAe : va_A [((mm 0), .inr (7, [.int 0, .ref (mm 1), .ref (mm 2), .ref (mm 3), .ref (mm 4), .ref (mm 5), .int 0, .int 0, .int 0, .int 0, .int 0, .int 0, .int 0, .int 0, .int 0, .int (-1), .int 0, .ref (mm 6), .int 0, .ref (mm 7), .ref (mm 8), .ref (mm 9), .int 0, .ref (mm 10), .ref (mm 11), .int 0, .int 0, .ref (mm 12), .ref (mm 13), .int 0, .ref (mm 14), .ref (mm 15), .ref (mm 16)])), ((mm 3), .inl (k 3, 2, .inl (fun _ => 0)))] s.heap.size = A at hD ⊢
  have hA : ∀ q : Nat, s.heap.size ≤ q → A q := fun q h => by rw [← hAe]; exact Or.inr h
  have hS : va_S A s.heap s.heap [] := va_S.rf
  have hP : va_P D vwCl [((mm 0), .inr (7, [.int 0, .ref (mm 1), .ref (mm 2), .ref (mm 3), .ref (mm 4), .ref (mm 5), .int 0, .int 0, .int 0, .int 0, .int 0, .int 0, .int 0, .int 0, .int 0, .int (-1), .int 0, .ref (mm 6), .int 0, .ref (mm 7), .ref (mm 8), .ref (mm 9), .int 0, .ref (mm 10), .ref (mm 11), .int 0, .int 0, .ref (mm 12), .ref (mm 13), .int 0, .ref (mm 14), .ref (mm 15), .ref (mm 16)])), ((mm 3), .inl (k 3, 2, .inl (fun _ => 0)))] s.heap := hP
  have hl := lv_entry ([.ref (mm 0), .int a, .int x]) (n := 4) (Nat.le_of_ble_eq_true rfl)
  rw [lg_entry_eq]
  generalize (lg_sl ([.ref (mm 0), .int a, .int x]) ++ List.replicate (4 - (lg_sl ([.ref (mm 0), .int a, .int x])).length) Slot.unset).toArray = ls at hl ⊢
  have hl : lv_has ls 4 [(0, .ref (mm 0)), (1, .int a), (2, .int x)] := hl
  refine lv_aload_n hx hb dX8_sure_0 rfl (lv_at hl 0 rfl) ?_
  refine lv_iconst (v := 0) hx hb dX8_sure_1 (by decide) ?_
  refine va_put (D := D) (ci := 7) (v := .int 0) (ty := .int) (C := RX8) (T := TX8) (N := 33) hx hb hts inlX8 tyX8 tyX8_ok nmX8 hown hK hP hD hS 0 rfl rfl 0 (by decide) (hts _ mw_125) (fun _ h9 => h9) rfl (by decide +kernel) rfl rfl (Nat.le_of_ble_eq_true rfl) dX8_sure_2 (fun H locs hP hD hS => ?_)
  have hP : va_P D vwCl [((mm 0), .inr (7, [.int 0, .ref (mm 1), .ref (mm 2), .ref (mm 3), .ref (mm 4), .ref (mm 5), .int 0, .int 0, .int 0, .int 0, .int 0, .int 0, .int 0, .int 0, .int 0, .int (-1), .int 0, .ref (mm 6), .int 0, .ref (mm 7), .ref (mm 8), .ref (mm 9), .int 0, .ref (mm 10), .ref (mm 11), .int 0, .int 0, .ref (mm 12), .ref (mm 13), .int 0, .ref (mm 14), .ref (mm 15), .ref (mm 16)])), ((mm 3), .inl (k 3, 2, .inl (fun _ => 0)))] H := hP
  have hD : va_D A [((mm 0), .inr (7, [.int 0, .ref (mm 1), .ref (mm 2), .ref (mm 3), .ref (mm 4), .ref (mm 5), .int 0, .int 0, .int 0, .int 0, .int 0, .int 0, .int 0, .int 0, .int 0, .int (-1), .int 0, .ref (mm 6), .int 0, .ref (mm 7), .ref (mm 8), .ref (mm 9), .int 0, .ref (mm 10), .ref (mm 11), .int 0, .int 0, .ref (mm 12), .ref (mm 13), .int 0, .ref (mm 14), .ref (mm 15), .ref (mm 16)])), ((mm 3), .inl (k 3, 2, .inl (fun _ => 0)))] := hD
  refine lv_iload_n hx hb dX8_sure_5 rfl (lv_at hl 1 rfl) ?_
  refine lv_i2l (v := a.toInt64) hx hb dX8_sure_6 rfl ?_
  refine lv_lconst (v := 1) hx hb dX8_sure_7 (by decide) ?_
  refine lv_ldc2 (own := RX8) (index := 220) (v := 3) hx hb hown (hts _ mw_592) dX8_sure_8 ?_
  refine kS_i (As := [.long a.toInt64, .long 1, .long 3]) (rest := []) (cs := []) ⟨hx, hb, hml, hown, hts⟩ (c_M_within l D k a 1 3) (gS mw_294 mw_295 mw_5 mw_296) hd_yX8_within rfl rfl ⟨Nat.le_of_ble_eq_true rfl, Nat.le_of_ble_eq_true rfl⟩ hK (hP.sub (ws' := []) [] rfl) rfl hl.1 rfl (Nat.le_of_ble_eq_true rfl) dX8_sure_11 ⟨Nat.le_of_ble_eq_true rfl, Nat.le_of_ble_eq_true rfl⟩ (fun r_1 hr_1 => ?_)
  by_cases hc_2 : 1 ≤ a.toInt ∧ a.toInt ≤ 3
  · obtain rfl : r_1 = 1 := hr_1.trans (if_pos hc_2)
    refine lv_if_eq (tgt := 30) hx hb dX8_sure_14 (by decide) (fun c9 => absurd c9 (by decide)) (fun _ => ?_)
    rcases (show a.toInt = 1 ∨ a.toInt = 2 ∨ a.toInt = 3 from by omega) with c_3 | c_4 | c_5
    · have qc_3 : a = 1 := ti_of (show a.toInt = 1 from c_3)
      refine lv_iload_n hx hb dX8_sure_17 rfl (lv_at hl 2 rfl) ?_
      refine lv_i2l (v := x.toInt64) hx hb dX8_sure_18 rfl ?_
      refine lv_lconst (v := 0) hx hb dX8_sure_19 (by decide) ?_
      refine lv_iload_n hx hb dX8_sure_20 rfl (lv_at hl 1 rfl) ?_
      refine lv_ni (v := 1) (qc_3) ?_
      refine lv_iconst (v := 1) hx hb dX8_sure_21 (by decide) ?_
      refine lv_isub hx hb dX8_sure_22 ?_
      refine lv_ni (v := 0) (by decide) ?_
      refine lv_i2l (v := 0) hx hb dX8_sure_23 (by decide) ?_
      refine kS_i (As := [.long x.toInt64, .long 0, .long 0]) (rest := []) (cs := []) ⟨hx, hb, hml, hown, hts⟩ (c_M_within l D k x 0 0) (gS mw_294 mw_295 mw_5 mw_296) hd_yX8_within rfl rfl ⟨Nat.le_of_ble_eq_true rfl, Nat.le_of_ble_eq_true rfl⟩ hK (hP.sub (ws' := []) [] rfl) rfl hl.1 rfl (Nat.le_of_ble_eq_true rfl) dX8_sure_24 ⟨Nat.le_of_ble_eq_true rfl, Nat.le_of_ble_eq_true rfl⟩ (fun r_6 hr_6 => ?_)
      by_cases hc_7 : 0 ≤ x.toInt ∧ x.toInt ≤ 0
      · obtain rfl : r_6 = 1 := hr_6.trans (if_pos hc_7)
        have q_8 : x = 0 := ti_of (show x.toInt = 0 from by omega)
        refine lv_if_ne (tgt := 33) hx hb dX8_sure_27 (by decide) (fun _ => ?_) (fun c9 => absurd c9 (by decide))
        refine lv_aload_n hx hb dX8_sure_33 rfl (lv_at hl 0 rfl) ?_
        refine lv_iload_n hx hb dX8_sure_34 rfl (lv_at hl 1 rfl) ?_
        refine lv_ni (v := 1) (qc_3) ?_
        refine kV_i (q0 := 0) (As := [.int 1]) (rest := []) (cs := [((mm 0), .inr (7, [.int 0, .ref (mm 1), .ref (mm 2), .ref (mm 3), .ref (mm 4), .ref (mm 5), .int 0, .int 0, .int 0, .int 0, .int 0, .int 0, .int 0, .int 0, .int 0, .int (-1), .int 0, .ref (mm 6), .int 0, .ref (mm 7), .ref (mm 8), .ref (mm 9), .int 0, .ref (mm 10), .ref (mm 11), .int 0, .int 0, .ref (mm 12), .ref (mm 13), .int 0, .ref (mm 14), .ref (mm 15), .ref (mm 16)])), ((mm 3), .inl (k 3, 2, .inl (fun _ => 0)))]) ⟨hx, hb, hml, hown, hts⟩ (c_M_laysPast0 l D k _ 1) (gV mw_1084 mw_1085 mw_1086 mw_5 mw_1087) hd_yX8_laysPast rfl rfl ⟨Nat.le_of_ble_eq_true rfl, Nat.le_of_ble_eq_true rfl⟩ hK (hP.sub (ws' := [((mm 0), .inr (7, [.int 0, .ref (mm 1), .ref (mm 2), .ref (mm 3), .ref (mm 4), .ref (mm 5), .int 0, .int 0, .int 0, .int 0, .int 0, .int 0, .int 0, .int 0, .int 0, .int (-1), .int 0, .ref (mm 6), .int 0, .ref (mm 7), .ref (mm 8), .ref (mm 9), .int 0, .ref (mm 10), .ref (mm 11), .int 0, .int 0, .ref (mm 12), .ref (mm 13), .int 0, .ref (mm 14), .ref (mm 15), .ref (mm 16)])), ((mm 3), .inl (k 3, 2, .inl (fun _ => 0)))]) [0, 1] rfl) rfl rfl rfl rfl hl.1 rfl (Nat.le_of_ble_eq_true rfl) dX8_sure_35 ⟨Nat.le_of_ble_eq_true rfl, Nat.le_of_ble_eq_true rfl⟩ (fun r_9 hr_9 => ?_)
        obtain rfl : r_9 = (-5) := hr_9
        refine lv_istore_n (lv' := [(3, .int (-5)), (0, .ref (mm 0)), (1, .int a), (2, .int x)]) hx hb dX8_sure_38 rfl hl (by decide) rfl (fun ls hl => ?_)
        refine lv_iload_n hx hb dX8_sure_39 rfl (lv_at hl 0 rfl) ?_
        refine lv_if_eq (tgt := 47) hx hb dX8_sure_40 (by decide) (fun c9 => absurd c9 (by decide)) (fun _ => ?_)
        refine lv_iload_n hx hb dX8_sure_43 rfl (lv_at hl 0 rfl) ?_
        refine lv_goto (tgt := 64) hx hb dX8_sure_44 (by decide) ?_
        have hP9 := hP.sub (ws' := []) [] rfl
        have hD9 := hD.sub (ws' := []) [] (by decide) rfl
        exact W.iret (v := (-5)) hx hb hr (fun t ht hW => ⟨⟨(-5), (), rfl, (by (repeat' split) <;> first | rfl | (exfalso; omega)), by rw [ht]; exact hP9, hD9⟩, hS.F ht⟩) hS.2.2 dX8_sure_64
      have hr_6 := hr_6.trans (if_neg hc_7)
      obtain rfl : r_6 = 0 := hr_6
      refine lv_if_ne (tgt := 33) hx hb dX8_sure_27 (by decide) (fun c9 => absurd c9 (by decide)) (fun _ => ?_)
      refine lv_bipush (v := (-3)) hx hb dX8_sure_30 (by decide) ?_
      have hP9 := hP.sub (ws' := []) [] rfl
      have hD9 := hD.sub (ws' := []) [] (by decide) rfl
      exact W.iret (v := (-3)) hx hb hr (fun t ht hW => ⟨⟨(-3), (), rfl, (by (repeat' split) <;> first | rfl | (exfalso; omega)), by rw [ht]; exact hP9, hD9⟩, hS.F ht⟩) hS.2.2 dX8_sure_32
    · have qc_4 : a = 2 := ti_of (show a.toInt = 2 from c_4)
      refine lv_iload_n hx hb dX8_sure_17 rfl (lv_at hl 2 rfl) ?_
      refine lv_i2l (v := x.toInt64) hx hb dX8_sure_18 rfl ?_
      refine lv_lconst (v := 0) hx hb dX8_sure_19 (by decide) ?_
      refine lv_iload_n hx hb dX8_sure_20 rfl (lv_at hl 1 rfl) ?_
      refine lv_ni (v := 2) (qc_4) ?_
      refine lv_iconst (v := 1) hx hb dX8_sure_21 (by decide) ?_
      refine lv_isub hx hb dX8_sure_22 ?_
      refine lv_ni (v := 1) (by decide) ?_
      refine lv_i2l (v := 1) hx hb dX8_sure_23 (by decide) ?_
      refine kS_i (As := [.long x.toInt64, .long 0, .long 1]) (rest := []) (cs := []) ⟨hx, hb, hml, hown, hts⟩ (c_M_within l D k x 0 1) (gS mw_294 mw_295 mw_5 mw_296) hd_yX8_within rfl rfl ⟨Nat.le_of_ble_eq_true rfl, Nat.le_of_ble_eq_true rfl⟩ hK (hP.sub (ws' := []) [] rfl) rfl hl.1 rfl (Nat.le_of_ble_eq_true rfl) dX8_sure_24 ⟨Nat.le_of_ble_eq_true rfl, Nat.le_of_ble_eq_true rfl⟩ (fun r_10 hr_10 => ?_)
      by_cases hc_11 : 0 ≤ x.toInt ∧ x.toInt ≤ 1
      · obtain rfl : r_10 = 1 := hr_10.trans (if_pos hc_11)
        refine lv_if_ne (tgt := 33) hx hb dX8_sure_27 (by decide) (fun _ => ?_) (fun c9 => absurd c9 (by decide))
        refine lv_aload_n hx hb dX8_sure_33 rfl (lv_at hl 0 rfl) ?_
        refine lv_iload_n hx hb dX8_sure_34 rfl (lv_at hl 1 rfl) ?_
        refine lv_ni (v := 2) (qc_4) ?_
        refine kV_i (q0 := 0) (As := [.int 2]) (rest := []) (cs := [((mm 0), .inr (7, [.int 0, .ref (mm 1), .ref (mm 2), .ref (mm 3), .ref (mm 4), .ref (mm 5), .int 0, .int 0, .int 0, .int 0, .int 0, .int 0, .int 0, .int 0, .int 0, .int (-1), .int 0, .ref (mm 6), .int 0, .ref (mm 7), .ref (mm 8), .ref (mm 9), .int 0, .ref (mm 10), .ref (mm 11), .int 0, .int 0, .ref (mm 12), .ref (mm 13), .int 0, .ref (mm 14), .ref (mm 15), .ref (mm 16)])), ((mm 3), .inl (k 3, 2, .inl (fun _ => 0)))]) ⟨hx, hb, hml, hown, hts⟩ (c_M_laysPast0 l D k _ 2) (gV mw_1084 mw_1085 mw_1086 mw_5 mw_1087) hd_yX8_laysPast rfl rfl ⟨Nat.le_of_ble_eq_true rfl, Nat.le_of_ble_eq_true rfl⟩ hK (hP.sub (ws' := [((mm 0), .inr (7, [.int 0, .ref (mm 1), .ref (mm 2), .ref (mm 3), .ref (mm 4), .ref (mm 5), .int 0, .int 0, .int 0, .int 0, .int 0, .int 0, .int 0, .int 0, .int 0, .int (-1), .int 0, .ref (mm 6), .int 0, .ref (mm 7), .ref (mm 8), .ref (mm 9), .int 0, .ref (mm 10), .ref (mm 11), .int 0, .int 0, .ref (mm 12), .ref (mm 13), .int 0, .ref (mm 14), .ref (mm 15), .ref (mm 16)])), ((mm 3), .inl (k 3, 2, .inl (fun _ => 0)))]) [0, 1] rfl) rfl rfl rfl rfl hl.1 rfl (Nat.le_of_ble_eq_true rfl) dX8_sure_35 ⟨Nat.le_of_ble_eq_true rfl, Nat.le_of_ble_eq_true rfl⟩ (fun r_12 hr_12 => ?_)
        obtain rfl : r_12 = (-5) := hr_12
        refine lv_istore_n (lv' := [(3, .int (-5)), (0, .ref (mm 0)), (1, .int a), (2, .int x)]) hx hb dX8_sure_38 rfl hl (by decide) rfl (fun ls hl => ?_)
        refine lv_iload_n hx hb dX8_sure_39 rfl (lv_at hl 0 rfl) ?_
        refine lv_if_eq (tgt := 47) hx hb dX8_sure_40 (by decide) (fun c9 => absurd c9 (by decide)) (fun _ => ?_)
        refine lv_iload_n hx hb dX8_sure_43 rfl (lv_at hl 0 rfl) ?_
        refine lv_goto (tgt := 64) hx hb dX8_sure_44 (by decide) ?_
        have hP9 := hP.sub (ws' := []) [] rfl
        have hD9 := hD.sub (ws' := []) [] (by decide) rfl
        exact W.iret (v := (-5)) hx hb hr (fun t ht hW => ⟨⟨(-5), (), rfl, (by (repeat' split) <;> first | rfl | (exfalso; omega)), by rw [ht]; exact hP9, hD9⟩, hS.F ht⟩) hS.2.2 dX8_sure_64
      have hr_10 := hr_10.trans (if_neg hc_11)
      obtain rfl : r_10 = 0 := hr_10
      refine lv_if_ne (tgt := 33) hx hb dX8_sure_27 (by decide) (fun c9 => absurd c9 (by decide)) (fun _ => ?_)
      refine lv_bipush (v := (-3)) hx hb dX8_sure_30 (by decide) ?_
      have hP9 := hP.sub (ws' := []) [] rfl
      have hD9 := hD.sub (ws' := []) [] (by decide) rfl
      exact W.iret (v := (-3)) hx hb hr (fun t ht hW => ⟨⟨(-3), (), rfl, (by (repeat' split) <;> first | rfl | (exfalso; omega)), by rw [ht]; exact hP9, hD9⟩, hS.F ht⟩) hS.2.2 dX8_sure_32
    · have qc_5 : a = 3 := ti_of (show a.toInt = 3 from c_5)
      refine lv_iload_n hx hb dX8_sure_17 rfl (lv_at hl 2 rfl) ?_
      refine lv_i2l (v := x.toInt64) hx hb dX8_sure_18 rfl ?_
      refine lv_lconst (v := 0) hx hb dX8_sure_19 (by decide) ?_
      refine lv_iload_n hx hb dX8_sure_20 rfl (lv_at hl 1 rfl) ?_
      refine lv_ni (v := 3) (qc_5) ?_
      refine lv_iconst (v := 1) hx hb dX8_sure_21 (by decide) ?_
      refine lv_isub hx hb dX8_sure_22 ?_
      refine lv_ni (v := 2) (by decide) ?_
      refine lv_i2l (v := 2) hx hb dX8_sure_23 (by decide) ?_
      refine kS_i (As := [.long x.toInt64, .long 0, .long 2]) (rest := []) (cs := []) ⟨hx, hb, hml, hown, hts⟩ (c_M_within l D k x 0 2) (gS mw_294 mw_295 mw_5 mw_296) hd_yX8_within rfl rfl ⟨Nat.le_of_ble_eq_true rfl, Nat.le_of_ble_eq_true rfl⟩ hK (hP.sub (ws' := []) [] rfl) rfl hl.1 rfl (Nat.le_of_ble_eq_true rfl) dX8_sure_24 ⟨Nat.le_of_ble_eq_true rfl, Nat.le_of_ble_eq_true rfl⟩ (fun r_13 hr_13 => ?_)
      by_cases hc_14 : 0 ≤ x.toInt ∧ x.toInt ≤ 2
      · obtain rfl : r_13 = 1 := hr_13.trans (if_pos hc_14)
        refine lv_if_ne (tgt := 33) hx hb dX8_sure_27 (by decide) (fun _ => ?_) (fun c9 => absurd c9 (by decide))
        refine lv_aload_n hx hb dX8_sure_33 rfl (lv_at hl 0 rfl) ?_
        refine lv_iload_n hx hb dX8_sure_34 rfl (lv_at hl 1 rfl) ?_
        refine lv_ni (v := 3) (qc_5) ?_
        refine kV_i (q0 := 0) (As := [.int 3]) (rest := []) (cs := [((mm 0), .inr (7, [.int 0, .ref (mm 1), .ref (mm 2), .ref (mm 3), .ref (mm 4), .ref (mm 5), .int 0, .int 0, .int 0, .int 0, .int 0, .int 0, .int 0, .int 0, .int 0, .int (-1), .int 0, .ref (mm 6), .int 0, .ref (mm 7), .ref (mm 8), .ref (mm 9), .int 0, .ref (mm 10), .ref (mm 11), .int 0, .int 0, .ref (mm 12), .ref (mm 13), .int 0, .ref (mm 14), .ref (mm 15), .ref (mm 16)])), ((mm 3), .inl (k 3, 2, .inl (fun _ => 0)))]) ⟨hx, hb, hml, hown, hts⟩ (c_M_laysPast0 l D k _ 3) (gV mw_1084 mw_1085 mw_1086 mw_5 mw_1087) hd_yX8_laysPast rfl rfl ⟨Nat.le_of_ble_eq_true rfl, Nat.le_of_ble_eq_true rfl⟩ hK (hP.sub (ws' := [((mm 0), .inr (7, [.int 0, .ref (mm 1), .ref (mm 2), .ref (mm 3), .ref (mm 4), .ref (mm 5), .int 0, .int 0, .int 0, .int 0, .int 0, .int 0, .int 0, .int 0, .int 0, .int (-1), .int 0, .ref (mm 6), .int 0, .ref (mm 7), .ref (mm 8), .ref (mm 9), .int 0, .ref (mm 10), .ref (mm 11), .int 0, .int 0, .ref (mm 12), .ref (mm 13), .int 0, .ref (mm 14), .ref (mm 15), .ref (mm 16)])), ((mm 3), .inl (k 3, 2, .inl (fun _ => 0)))]) [0, 1] rfl) rfl rfl rfl rfl hl.1 rfl (Nat.le_of_ble_eq_true rfl) dX8_sure_35 ⟨Nat.le_of_ble_eq_true rfl, Nat.le_of_ble_eq_true rfl⟩ (fun r_15 hr_15 => ?_)
        obtain rfl : r_15 = (-5) := hr_15
        refine lv_istore_n (lv' := [(3, .int (-5)), (0, .ref (mm 0)), (1, .int a), (2, .int x)]) hx hb dX8_sure_38 rfl hl (by decide) rfl (fun ls hl => ?_)
        refine lv_iload_n hx hb dX8_sure_39 rfl (lv_at hl 0 rfl) ?_
        refine lv_if_eq (tgt := 47) hx hb dX8_sure_40 (by decide) (fun c9 => absurd c9 (by decide)) (fun _ => ?_)
        refine lv_iload_n hx hb dX8_sure_43 rfl (lv_at hl 0 rfl) ?_
        refine lv_goto (tgt := 64) hx hb dX8_sure_44 (by decide) ?_
        have hP9 := hP.sub (ws' := []) [] rfl
        have hD9 := hD.sub (ws' := []) [] (by decide) rfl
        exact W.iret (v := (-5)) hx hb hr (fun t ht hW => ⟨⟨(-5), (), rfl, (by (repeat' split) <;> first | rfl | (exfalso; omega)), by rw [ht]; exact hP9, hD9⟩, hS.F ht⟩) hS.2.2 dX8_sure_64
      have hr_13 := hr_13.trans (if_neg hc_14)
      obtain rfl : r_13 = 0 := hr_13
      refine lv_if_ne (tgt := 33) hx hb dX8_sure_27 (by decide) (fun c9 => absurd c9 (by decide)) (fun _ => ?_)
      refine lv_bipush (v := (-3)) hx hb dX8_sure_30 (by decide) ?_
      have hP9 := hP.sub (ws' := []) [] rfl
      have hD9 := hD.sub (ws' := []) [] (by decide) rfl
      exact W.iret (v := (-3)) hx hb hr (fun t ht hW => ⟨⟨(-3), (), rfl, (by (repeat' split) <;> first | rfl | (exfalso; omega)), by rw [ht]; exact hP9, hD9⟩, hS.F ht⟩) hS.2.2 dX8_sure_32
  have hr_1 := hr_1.trans (if_neg hc_2)
  obtain rfl : r_1 = 0 := hr_1
  refine lv_if_eq (tgt := 30) hx hb dX8_sure_14 (by decide) (fun _ => ?_) (fun c9 => absurd c9 (by decide))
  refine lv_bipush (v := (-3)) hx hb dX8_sure_30 (by decide) ?_
  have hP9 := hP.sub (ws' := []) [] rfl
  have hD9 := hD.sub (ws' := []) [] (by decide) rfl
  exact W.iret (v := (-3)) hx hb hr (fun t ht hW => ⟨⟨(-3), (), rfl, (by (repeat' split) <;> first | rfl | (exfalso; omega)), by rw [ht]; exact hP9, hD9⟩, hS.F ht⟩) hS.2.2 dX8_sure_32
set_option maxHeartbeats 4000000 in
set_option maxRecDepth 100000 in
theorem c_M_causes (l : Launch) (D : va_G) (k : Nat → ClassId) (mm : Nat → Nat) (f : Nat → Int32) (a : Int32) (sz : Nat) (hf0 : f 0 = 0) : Met l yX8_causes (Cond.code yX8_causes cX8_causes 6 (some .int) :: wsL_law) ({ frames := 2, cells := 0, slots := 0, locals := 120 } : Room) (va_Pc [.ref (mm 0), .int a] (pu D k sz [((mm 0), .inr (7, [.int 0, .ref (mm 1), .ref (mm 2), .ref (mm 3), .ref (mm 4), .ref (mm 5), .int 0, .int 0, .int 0, .int 0, .int 0, .int 0, .int 0, .int 0, .int 0, .int (-1), .int 0, .ref (mm 6), .int 0, .ref (mm 7), .ref (mm 8), .ref (mm 9), .int 0, .ref (mm 10), .ref (mm 11), .int 0, .int 0, .ref (mm 12), .ref (mm 13), .int 0, .ref (mm 14), .ref (mm 15), .ref (mm 16)])), ((mm 1), .inl (k 0, 1227, .inl f))])) (va_Qi (fun rr (uu : Unit) => rr = if a.toInt = 0 then 0 else (-3)) (qu D (va_A [((mm 0), .inr (7, [.int 0, .ref (mm 1), .ref (mm 2), .ref (mm 3), .ref (mm 4), .ref (mm 5), .int 0, .int 0, .int 0, .int 0, .int 0, .int 0, .int 0, .int 0, .int 0, .int (-1), .int 0, .ref (mm 6), .int 0, .ref (mm 7), .ref (mm 8), .ref (mm 9), .int 0, .ref (mm 10), .ref (mm 11), .int 0, .int 0, .ref (mm 12), .ref (mm 13), .int 0, .ref (mm 14), .ref (mm 15), .ref (mm 16)])), ((mm 1), .inl (k 0, 1227, .inl f))] sz) (fun uu : Unit => [])) (va_A [((mm 0), .inr (7, [.int 0, .ref (mm 1), .ref (mm 2), .ref (mm 3), .ref (mm 4), .ref (mm 5), .int 0, .int 0, .int 0, .int 0, .int 0, .int 0, .int 0, .int 0, .int 0, .int (-1), .int 0, .ref (mm 6), .int 0, .ref (mm 7), .ref (mm 8), .ref (mm 9), .int 0, .ref (mm 10), .ref (mm 11), .int 0, .int 0, .ref (mm 12), .ref (mm 13), .int 0, .ref (mm 14), .ref (mm 15), .ref (mm 16)])), ((mm 1), .inl (k 0, 1227, .inl f))] sz)) 0 0 (va_A [((mm 0), .inr (7, [.int 0, .ref (mm 1), .ref (mm 2), .ref (mm 3), .ref (mm 4), .ref (mm 5), .int 0, .int 0, .int 0, .int 0, .int 0, .int 0, .int 0, .int 0, .int 0, .int (-1), .int 0, .ref (mm 6), .int 0, .ref (mm 7), .ref (mm 8), .ref (mm 9), .int 0, .ref (mm 10), .ref (mm 11), .int 0, .int 0, .ref (mm 12), .ref (mm 13), .int 0, .ref (mm 14), .ref (mm 15), .ref (mm 16)])), ((mm 1), .inl (k 0, 1227, .inl f))] sz) := by
  refine Met.ofW (cc := cX8_causes) (maxL := 6) (ret := (some .int)) (by decide) rfl ?_
  intro p e s m args below meth c s₁ B hml hv
  obtain ⟨rfl, hsz, hP, hK, hD0⟩ := hv
  have hx := B.exec
  have hb := B.bytes
  have hr := B.returns
  have hts : ∀ w ∈ wsL_law, w.before _ s = true := fun w h => atoms_spec (ws := Cond.code yX8_causes cX8_causes 6 (some .int) :: wsL_law) B.pre w (List.mem_cons_of_mem _ h)
  have hown : s.vm.findClass RX8 = some m.cls := findClass_of_methodNamed B.named
  have hlocks := B.notSynchronized
  subst hsz
  have hD := hD0.self (sz := s.heap.size)
  generalize hAe : va_A [((mm 0), .inr (7, [.int 0, .ref (mm 1), .ref (mm 2), .ref (mm 3), .ref (mm 4), .ref (mm 5), .int 0, .int 0, .int 0, .int 0, .int 0, .int 0, .int 0, .int 0, .int 0, .int (-1), .int 0, .ref (mm 6), .int 0, .ref (mm 7), .ref (mm 8), .ref (mm 9), .int 0, .ref (mm 10), .ref (mm 11), .int 0, .int 0, .ref (mm 12), .ref (mm 13), .int 0, .ref (mm 14), .ref (mm 15), .ref (mm 16)])), ((mm 1), .inl (k 0, 1227, .inl f))] s.heap.size = A at hD ⊢
  have hA : ∀ q : Nat, s.heap.size ≤ q → A q := fun q h => by rw [← hAe]; exact Or.inr h
  have hS : va_S A s.heap s.heap [] := va_S.rf
  have hP : va_P D vwCl [((mm 0), .inr (7, [.int 0, .ref (mm 1), .ref (mm 2), .ref (mm 3), .ref (mm 4), .ref (mm 5), .int 0, .int 0, .int 0, .int 0, .int 0, .int 0, .int 0, .int 0, .int 0, .int (-1), .int 0, .ref (mm 6), .int 0, .ref (mm 7), .ref (mm 8), .ref (mm 9), .int 0, .ref (mm 10), .ref (mm 11), .int 0, .int 0, .ref (mm 12), .ref (mm 13), .int 0, .ref (mm 14), .ref (mm 15), .ref (mm 16)])), ((mm 1), .inl (k 0, 1227, .inl f))] s.heap := hP
  have hl := lv_entry ([.ref (mm 0), .int a]) (n := 6) (Nat.le_of_ble_eq_true rfl)
  rw [lg_entry_eq]
  generalize (lg_sl ([.ref (mm 0), .int a]) ++ List.replicate (6 - (lg_sl ([.ref (mm 0), .int a])).length) Slot.unset).toArray = ls at hl ⊢
  have hl : lv_has ls 6 [(0, .ref (mm 0)), (1, .int a)] := hl
  refine lv_aload_n hx hb dX8_causes_0 rfl (lv_at hl 0 rfl) ?_
  refine lv_iconst (v := 0) hx hb dX8_causes_1 (by decide) ?_
  refine va_put (D := D) (ci := 7) (v := .int 0) (ty := .int) (C := RX8) (T := TX8) (N := 33) hx hb hts inlX8 tyX8 tyX8_ok nmX8 hown hK hP hD hS 0 rfl rfl 0 (by decide) (hts _ mw_125) (fun _ h9 => h9) rfl (by decide +kernel) rfl rfl (Nat.le_of_ble_eq_true rfl) dX8_causes_2 (fun H locs hP hD hS => ?_)
  have hP : va_P D vwCl [((mm 0), .inr (7, [.int 0, .ref (mm 1), .ref (mm 2), .ref (mm 3), .ref (mm 4), .ref (mm 5), .int 0, .int 0, .int 0, .int 0, .int 0, .int 0, .int 0, .int 0, .int 0, .int (-1), .int 0, .ref (mm 6), .int 0, .ref (mm 7), .ref (mm 8), .ref (mm 9), .int 0, .ref (mm 10), .ref (mm 11), .int 0, .int 0, .ref (mm 12), .ref (mm 13), .int 0, .ref (mm 14), .ref (mm 15), .ref (mm 16)])), ((mm 1), .inl (k 0, 1227, .inl f))] H := hP
  have hD : va_D A [((mm 0), .inr (7, [.int 0, .ref (mm 1), .ref (mm 2), .ref (mm 3), .ref (mm 4), .ref (mm 5), .int 0, .int 0, .int 0, .int 0, .int 0, .int 0, .int 0, .int 0, .int 0, .int (-1), .int 0, .ref (mm 6), .int 0, .ref (mm 7), .ref (mm 8), .ref (mm 9), .int 0, .ref (mm 10), .ref (mm 11), .int 0, .int 0, .ref (mm 12), .ref (mm 13), .int 0, .ref (mm 14), .ref (mm 15), .ref (mm 16)])), ((mm 1), .inl (k 0, 1227, .inl f))] := hD
  refine lv_aload_n hx hb dX8_causes_5 rfl (lv_at hl 0 rfl) ?_
  refine lv_iload_n hx hb dX8_causes_6 rfl (lv_at hl 1 rfl) ?_
  refine lv_i2l (v := a.toInt64) hx hb dX8_causes_7 rfl ?_
  refine kV_i (q0 := 0) (As := [.long a.toInt64]) (rest := []) (cs := [((mm 0), .inr (7, [.int 0, .ref (mm 1), .ref (mm 2), .ref (mm 3), .ref (mm 4), .ref (mm 5), .int 0, .int 0, .int 0, .int 0, .int 0, .int 0, .int 0, .int 0, .int 0, .int (-1), .int 0, .ref (mm 6), .int 0, .ref (mm 7), .ref (mm 8), .ref (mm 9), .int 0, .ref (mm 10), .ref (mm 11), .int 0, .int 0, .ref (mm 12), .ref (mm 13), .int 0, .ref (mm 14), .ref (mm 15), .ref (mm 16)])), ((mm 1), .inl (k 0, 1227, .inl f))]) ⟨hx, hb, hml, hown, hts⟩ (c_M_isSet l D k _ 0 f a hf0) (gV mw_518 mw_519 mw_520 mw_5 mw_521) hd_yX8_isSet rfl rfl ⟨Nat.le_of_ble_eq_true rfl, Nat.le_of_ble_eq_true rfl⟩ hK (hP.sub (ws' := [((mm 0), .inr (7, [.int 0, .ref (mm 1), .ref (mm 2), .ref (mm 3), .ref (mm 4), .ref (mm 5), .int 0, .int 0, .int 0, .int 0, .int 0, .int 0, .int 0, .int 0, .int 0, .int (-1), .int 0, .ref (mm 6), .int 0, .ref (mm 7), .ref (mm 8), .ref (mm 9), .int 0, .ref (mm 10), .ref (mm 11), .int 0, .int 0, .ref (mm 12), .ref (mm 13), .int 0, .ref (mm 14), .ref (mm 15), .ref (mm 16)])), ((mm 1), .inl (k 0, 1227, .inl f))]) [0, 1] rfl) rfl rfl rfl rfl hl.1 rfl (Nat.le_of_ble_eq_true rfl) dX8_causes_8 ⟨Nat.le_of_ble_eq_true rfl, Nat.le_of_ble_eq_true rfl⟩ (fun r_1 hr_1 => ?_)
  by_cases hc_2 : a.toInt = 0
  · obtain rfl : r_1 = 1 := hr_1.trans (if_pos hc_2)
    have q_3 : a = 0 := ti_of (show a.toInt = 0 from by omega)
    refine lv_if_ne (tgt := 17) hx hb dX8_causes_11 (by decide) (fun _ => ?_) (fun c9 => absurd c9 (by decide))
    refine lv_iconst (v := 0) hx hb dX8_causes_17 (by decide) ?_
    refine lv_istore_n (lv' := [(2, .int 0), (0, .ref (mm 0)), (1, .int a)]) hx hb dX8_causes_18 rfl hl (by decide) rfl (fun ls hl => ?_)
    refine lv_iconst (v := 0) hx hb dX8_causes_19 (by decide) ?_
    refine lv_istore_n (lv' := [(3, .int 0), (2, .int 0), (0, .ref (mm 0)), (1, .int a)]) hx hb dX8_causes_20 rfl hl (by decide) rfl (fun ls hl => ?_)
    refine lv_iload_n hx hb dX8_causes_21 rfl (lv_at hl 0 rfl) ?_
    refine lv_aload_n hx hb dX8_causes_22 rfl (lv_at hl 2 rfl) ?_
    refine va_get (D := D) (ci := 7) (v := .ref (mm 1)) (C := RX8) (T := TX8) (N := 33) hx hb hts inlX8 hown hK hP 0 rfl rfl 1 (by decide) (hts _ mw_91) (fun _ h9 => h9) rfl dX8_causes_23 ?_
    refine lv_iconst (v := 0) hx hb dX8_causes_26 (by decide) ?_
    refine va_iald hx hb hK hP 1 0 rfl rfl (vp_in_c (by decide)) dX8_causes_27 ?_
    refine lv_ni (v := 0) (hf0) ?_
    refine lv_icmp_ge (tgt := 108) hx hb dX8_causes_28 (by decide) (fun _ => ?_) (fun c9 => absurd c9 (by decide))
    refine lv_iload_n hx hb dX8_causes_108 rfl (lv_at hl 1 rfl) ?_
    have hP9 := hP.sub (ws' := []) [] rfl
    have hD9 := hD.sub (ws' := []) [] (by decide) rfl
    exact W.iret (v := 0) hx hb hr (fun t ht hW => ⟨⟨0, (), rfl, (by (repeat' split) <;> first | rfl | (exfalso; omega)), by rw [ht]; exact hP9, hD9⟩, hS.F ht⟩) hS.2.2 dX8_causes_109
  have hr_1 := hr_1.trans (if_neg hc_2)
  obtain rfl : r_1 = 0 := hr_1
  refine lv_if_ne (tgt := 17) hx hb dX8_causes_11 (by decide) (fun c9 => absurd c9 (by decide)) (fun _ => ?_)
  refine lv_bipush (v := (-3)) hx hb dX8_causes_14 (by decide) ?_
  have hP9 := hP.sub (ws' := []) [] rfl
  have hD9 := hD.sub (ws' := []) [] (by decide) rfl
  exact W.iret (v := (-3)) hx hb hr (fun t ht hW => ⟨⟨(-3), (), rfl, (by (repeat' split) <;> first | rfl | (exfalso; omega)), by rw [ht]; exact hP9, hD9⟩, hS.F ht⟩) hS.2.2 dX8_causes_16
set_option maxHeartbeats 4000000 in
set_option maxRecDepth 100000 in
theorem c_M_look (l : Launch) (D : va_G) (k : Nat → ClassId) (mm : Nat → Nat) (f : Nat → Int32) (sz : Nat) (hf0 : f 0 = 0) : Met l yX8_look (Cond.code yX8_look cX8_look 7 (some .int) :: wsL_law) ({ frames := 2, cells := 0, slots := 0, locals := 120 } : Room) (va_Pc [.ref (mm 0)] (pu D k sz [((mm 0), .inr (7, [.int 0, .ref (mm 1), .ref (mm 2), .ref (mm 3), .ref (mm 4), .ref (mm 5), .int 0, .int 0, .int 0, .int 0, .int 0, .int 0, .int 0, .int 0, .int 0, .int (-1), .int 0, .ref (mm 6), .int 0, .ref (mm 7), .ref (mm 8), .ref (mm 9), .int 0, .ref (mm 10), .ref (mm 11), .int 0, .int 0, .ref (mm 12), .ref (mm 13), .int 0, .ref (mm 14), .ref (mm 15), .ref (mm 16)])), ((mm 1), .inl (k 0, 1227, .inl f))])) (va_Qi (fun rr (uu : Unit) => rr = (-1)) (qu D (va_A [((mm 0), .inr (7, [.int 0, .ref (mm 1), .ref (mm 2), .ref (mm 3), .ref (mm 4), .ref (mm 5), .int 0, .int 0, .int 0, .int 0, .int 0, .int 0, .int 0, .int 0, .int 0, .int (-1), .int 0, .ref (mm 6), .int 0, .ref (mm 7), .ref (mm 8), .ref (mm 9), .int 0, .ref (mm 10), .ref (mm 11), .int 0, .int 0, .ref (mm 12), .ref (mm 13), .int 0, .ref (mm 14), .ref (mm 15), .ref (mm 16)])), ((mm 1), .inl (k 0, 1227, .inl f))] sz) (fun uu : Unit => [])) (va_A [((mm 0), .inr (7, [.int 0, .ref (mm 1), .ref (mm 2), .ref (mm 3), .ref (mm 4), .ref (mm 5), .int 0, .int 0, .int 0, .int 0, .int 0, .int 0, .int 0, .int 0, .int 0, .int (-1), .int 0, .ref (mm 6), .int 0, .ref (mm 7), .ref (mm 8), .ref (mm 9), .int 0, .ref (mm 10), .ref (mm 11), .int 0, .int 0, .ref (mm 12), .ref (mm 13), .int 0, .ref (mm 14), .ref (mm 15), .ref (mm 16)])), ((mm 1), .inl (k 0, 1227, .inl f))] sz)) 0 0 (va_A [((mm 0), .inr (7, [.int 0, .ref (mm 1), .ref (mm 2), .ref (mm 3), .ref (mm 4), .ref (mm 5), .int 0, .int 0, .int 0, .int 0, .int 0, .int 0, .int 0, .int 0, .int 0, .int (-1), .int 0, .ref (mm 6), .int 0, .ref (mm 7), .ref (mm 8), .ref (mm 9), .int 0, .ref (mm 10), .ref (mm 11), .int 0, .int 0, .ref (mm 12), .ref (mm 13), .int 0, .ref (mm 14), .ref (mm 15), .ref (mm 16)])), ((mm 1), .inl (k 0, 1227, .inl f))] sz) := by
  refine Met.ofW (cc := cX8_look) (maxL := 7) (ret := (some .int)) (by decide) rfl ?_
  intro p e s m args below meth c s₁ B hml hv
  obtain ⟨rfl, hsz, hP, hK, hD0⟩ := hv
  have hx := B.exec
  have hb := B.bytes
  have hr := B.returns
  have hts : ∀ w ∈ wsL_law, w.before _ s = true := fun w h => atoms_spec (ws := Cond.code yX8_look cX8_look 7 (some .int) :: wsL_law) B.pre w (List.mem_cons_of_mem _ h)
  have hown : s.vm.findClass RX8 = some m.cls := findClass_of_methodNamed B.named
  have hlocks := B.notSynchronized
  subst hsz
  have hD := hD0.self (sz := s.heap.size)
  generalize hAe : va_A [((mm 0), .inr (7, [.int 0, .ref (mm 1), .ref (mm 2), .ref (mm 3), .ref (mm 4), .ref (mm 5), .int 0, .int 0, .int 0, .int 0, .int 0, .int 0, .int 0, .int 0, .int 0, .int (-1), .int 0, .ref (mm 6), .int 0, .ref (mm 7), .ref (mm 8), .ref (mm 9), .int 0, .ref (mm 10), .ref (mm 11), .int 0, .int 0, .ref (mm 12), .ref (mm 13), .int 0, .ref (mm 14), .ref (mm 15), .ref (mm 16)])), ((mm 1), .inl (k 0, 1227, .inl f))] s.heap.size = A at hD ⊢
  have hA : ∀ q : Nat, s.heap.size ≤ q → A q := fun q h => by rw [← hAe]; exact Or.inr h
  have hS : va_S A s.heap s.heap [] := va_S.rf
  have hP : va_P D vwCl [((mm 0), .inr (7, [.int 0, .ref (mm 1), .ref (mm 2), .ref (mm 3), .ref (mm 4), .ref (mm 5), .int 0, .int 0, .int 0, .int 0, .int 0, .int 0, .int 0, .int 0, .int 0, .int (-1), .int 0, .ref (mm 6), .int 0, .ref (mm 7), .ref (mm 8), .ref (mm 9), .int 0, .ref (mm 10), .ref (mm 11), .int 0, .int 0, .ref (mm 12), .ref (mm 13), .int 0, .ref (mm 14), .ref (mm 15), .ref (mm 16)])), ((mm 1), .inl (k 0, 1227, .inl f))] s.heap := hP
  have hl := lv_entry ([.ref (mm 0)]) (n := 7) (Nat.le_of_ble_eq_true rfl)
  rw [lg_entry_eq]
  generalize (lg_sl ([.ref (mm 0)]) ++ List.replicate (7 - (lg_sl ([.ref (mm 0)])).length) Slot.unset).toArray = ls at hl ⊢
  have hl : lv_has ls 7 [(0, .ref (mm 0))] := hl
  refine lv_aload_n hx hb dX8_look_0 rfl (lv_at hl 0 rfl) ?_
  refine lv_iconst (v := 0) hx hb dX8_look_1 (by decide) ?_
  refine va_put (D := D) (ci := 7) (v := .int 0) (ty := .int) (C := RX8) (T := TX8) (N := 33) hx hb hts inlX8 tyX8 tyX8_ok nmX8 hown hK hP hD hS 0 rfl rfl 0 (by decide) (hts _ mw_125) (fun _ h9 => h9) rfl (by decide +kernel) rfl rfl (Nat.le_of_ble_eq_true rfl) dX8_look_2 (fun H locs hP hD hS => ?_)
  have hP : va_P D vwCl [((mm 0), .inr (7, [.int 0, .ref (mm 1), .ref (mm 2), .ref (mm 3), .ref (mm 4), .ref (mm 5), .int 0, .int 0, .int 0, .int 0, .int 0, .int 0, .int 0, .int 0, .int 0, .int (-1), .int 0, .ref (mm 6), .int 0, .ref (mm 7), .ref (mm 8), .ref (mm 9), .int 0, .ref (mm 10), .ref (mm 11), .int 0, .int 0, .ref (mm 12), .ref (mm 13), .int 0, .ref (mm 14), .ref (mm 15), .ref (mm 16)])), ((mm 1), .inl (k 0, 1227, .inl f))] H := hP
  have hD : va_D A [((mm 0), .inr (7, [.int 0, .ref (mm 1), .ref (mm 2), .ref (mm 3), .ref (mm 4), .ref (mm 5), .int 0, .int 0, .int 0, .int 0, .int 0, .int 0, .int 0, .int 0, .int 0, .int (-1), .int 0, .ref (mm 6), .int 0, .ref (mm 7), .ref (mm 8), .ref (mm 9), .int 0, .ref (mm 10), .ref (mm 11), .int 0, .int 0, .ref (mm 12), .ref (mm 13), .int 0, .ref (mm 14), .ref (mm 15), .ref (mm 16)])), ((mm 1), .inl (k 0, 1227, .inl f))] := hD
  refine lv_iconst (v := 0) hx hb dX8_look_5 (by decide) ?_
  refine lv_istore_n (lv' := [(1, .int 0), (0, .ref (mm 0))]) hx hb dX8_look_6 rfl hl (by decide) rfl (fun ls hl => ?_)
  refine lv_iconst (v := 0) hx hb dX8_look_7 (by decide) ?_
  refine lv_istore_n (lv' := [(2, .int 0), (1, .int 0), (0, .ref (mm 0))]) hx hb dX8_look_8 rfl hl (by decide) rfl (fun ls hl => ?_)
  refine lv_iload_n hx hb dX8_look_9 rfl (lv_at hl 0 rfl) ?_
  refine lv_aload_n hx hb dX8_look_10 rfl (lv_at hl 2 rfl) ?_
  refine va_get (D := D) (ci := 7) (v := .ref (mm 1)) (C := RX8) (T := TX8) (N := 33) hx hb hts inlX8 hown hK hP 0 rfl rfl 1 (by decide) (hts _ mw_91) (fun _ h9 => h9) rfl dX8_look_11 ?_
  refine lv_iconst (v := 0) hx hb dX8_look_14 (by decide) ?_
  refine va_iald hx hb hK hP 1 0 rfl rfl (vp_in_c (by decide)) dX8_look_15 ?_
  refine lv_ni (v := 0) (hf0) ?_
  refine lv_icmp_ge (tgt := 63) hx hb dX8_look_16 (by decide) (fun _ => ?_) (fun c9 => absurd c9 (by decide))
  refine lv_iload_n hx hb dX8_look_63 rfl (lv_at hl 1 rfl) ?_
  refine kS_i (As := [.int 0]) (rest := []) (cs := []) ⟨hx, hb, hml, hown, hts⟩ (c_M_bitsOf0 l D k ) (gS mw_760 mw_761 mw_5 mw_762) hd_yX8_bitsOf rfl rfl ⟨Nat.le_of_ble_eq_true rfl, Nat.le_of_ble_eq_true rfl⟩ hK (hP.sub (ws' := []) [] rfl) rfl hl.1 rfl (Nat.le_of_ble_eq_true rfl) dX8_look_64 ⟨Nat.le_of_ble_eq_true rfl, Nat.le_of_ble_eq_true rfl⟩ (fun r_1 hr_1 => ?_)
  obtain rfl : r_1 = 0 := hr_1
  refine lv_iconst (v := 2) hx hb dX8_look_67 (by decide) ?_
  refine lv_icmp_ge (tgt := 73) hx hb dX8_look_68 (by decide) (fun c9 => absurd c9 (by decide)) (fun _ => ?_)
  refine lv_iconst (v := (-1)) hx hb dX8_look_71 (by decide) ?_
  have hP9 := hP.sub (ws' := []) [] rfl
  have hD9 := hD.sub (ws' := []) [] (by decide) rfl
  exact W.iret (v := (-1)) hx hb hr (fun t ht hW => ⟨⟨(-1), (), rfl, rfl, by rw [ht]; exact hP9, hD9⟩, hS.F ht⟩) hS.2.2 dX8_look_72
set_option maxHeartbeats 4000000 in
set_option maxRecDepth 100000 in
theorem c_M_numbers (l : Launch) (D : va_G) (k : Nat → ClassId) (mm : Nat → Nat) (rs : Nat → Int32) (a : Int32) (x : Int32) (z : Int32) (sz : Nat) : Met l yX8_numbers (Cond.code yX8_numbers cX8_numbers 5 (some .int) :: wsL_law) ({ frames := 1, cells := 0, slots := 0, locals := 60 } : Room) (va_Pc [.ref (mm 0), .int a, .int x, .int z] (pu D k sz [((mm 0), .inr (7, [.int 0, .ref (mm 1), .ref (mm 2), .ref (mm 3), .ref (mm 4), .ref (mm 5), .int 0, .int 0, .int 0, .int 0, .int 0, .int 0, .int 0, .int 0, .int 0, .int (-1), .int 0, .ref (mm 6), .int 0, .ref (mm 7), .ref (mm 8), .ref (mm 9), .int 0, .ref (mm 10), .ref (mm 11), .int 0, .int 0, .ref (mm 12), .ref (mm 13), .int 0, .ref (mm 14), .ref (mm 15), .ref (mm 16)])), ((mm 14), .inl (k 0, 4, .inl rs)), ((mm 15), .inl (k 0, 4, .inl (fun _ => 0))), ((mm 16), .inl (k 1, 160, .inr (.inl (fun _ => 0))))])) (va_Qi (fun rr (uu : Unit) => rr = if ¬ ((0 ≤ a.toInt ∧ a.toInt ≤ 3) ∧ 0 ≤ x.toInt ∧ x.toInt ≤ 3) then (-2) else if 0 ≤ z.toInt ∧ z.toInt ≤ 40 then 0 else (-3)) (qu D (va_A [((mm 0), .inr (7, [.int 0, .ref (mm 1), .ref (mm 2), .ref (mm 3), .ref (mm 4), .ref (mm 5), .int 0, .int 0, .int 0, .int 0, .int 0, .int 0, .int 0, .int 0, .int 0, .int (-1), .int 0, .ref (mm 6), .int 0, .ref (mm 7), .ref (mm 8), .ref (mm 9), .int 0, .ref (mm 10), .ref (mm 11), .int 0, .int 0, .ref (mm 12), .ref (mm 13), .int 0, .ref (mm 14), .ref (mm 15), .ref (mm 16)])), ((mm 14), .inl (k 0, 4, .inl rs)), ((mm 15), .inl (k 0, 4, .inl (fun _ => 0))), ((mm 16), .inl (k 1, 160, .inr (.inl (fun _ => 0))))] sz) (fun uu : Unit => [])) (va_A [((mm 0), .inr (7, [.int 0, .ref (mm 1), .ref (mm 2), .ref (mm 3), .ref (mm 4), .ref (mm 5), .int 0, .int 0, .int 0, .int 0, .int 0, .int 0, .int 0, .int 0, .int 0, .int (-1), .int 0, .ref (mm 6), .int 0, .ref (mm 7), .ref (mm 8), .ref (mm 9), .int 0, .ref (mm 10), .ref (mm 11), .int 0, .int 0, .ref (mm 12), .ref (mm 13), .int 0, .ref (mm 14), .ref (mm 15), .ref (mm 16)])), ((mm 14), .inl (k 0, 4, .inl rs)), ((mm 15), .inl (k 0, 4, .inl (fun _ => 0))), ((mm 16), .inl (k 1, 160, .inr (.inl (fun _ => 0))))] sz)) 0 0 (va_A [((mm 0), .inr (7, [.int 0, .ref (mm 1), .ref (mm 2), .ref (mm 3), .ref (mm 4), .ref (mm 5), .int 0, .int 0, .int 0, .int 0, .int 0, .int 0, .int 0, .int 0, .int 0, .int (-1), .int 0, .ref (mm 6), .int 0, .ref (mm 7), .ref (mm 8), .ref (mm 9), .int 0, .ref (mm 10), .ref (mm 11), .int 0, .int 0, .ref (mm 12), .ref (mm 13), .int 0, .ref (mm 14), .ref (mm 15), .ref (mm 16)])), ((mm 14), .inl (k 0, 4, .inl rs)), ((mm 15), .inl (k 0, 4, .inl (fun _ => 0))), ((mm 16), .inl (k 1, 160, .inr (.inl (fun _ => 0))))] sz) := by
  refine Met.ofW (cc := cX8_numbers) (maxL := 5) (ret := (some .int)) (by decide) rfl ?_
  intro p e s m args below meth c s₁ B hml hv
  obtain ⟨rfl, hsz, hP, hK, hD0⟩ := hv
  have hx := B.exec
  have hb := B.bytes
  have hr := B.returns
  have hts : ∀ w ∈ wsL_law, w.before _ s = true := fun w h => atoms_spec (ws := Cond.code yX8_numbers cX8_numbers 5 (some .int) :: wsL_law) B.pre w (List.mem_cons_of_mem _ h)
  have hown : s.vm.findClass RX8 = some m.cls := findClass_of_methodNamed B.named
  have hlocks := B.notSynchronized
  subst hsz
  have hD := hD0.self (sz := s.heap.size)
  generalize hAe : va_A [((mm 0), .inr (7, [.int 0, .ref (mm 1), .ref (mm 2), .ref (mm 3), .ref (mm 4), .ref (mm 5), .int 0, .int 0, .int 0, .int 0, .int 0, .int 0, .int 0, .int 0, .int 0, .int (-1), .int 0, .ref (mm 6), .int 0, .ref (mm 7), .ref (mm 8), .ref (mm 9), .int 0, .ref (mm 10), .ref (mm 11), .int 0, .int 0, .ref (mm 12), .ref (mm 13), .int 0, .ref (mm 14), .ref (mm 15), .ref (mm 16)])), ((mm 14), .inl (k 0, 4, .inl rs)), ((mm 15), .inl (k 0, 4, .inl (fun _ => 0))), ((mm 16), .inl (k 1, 160, .inr (.inl (fun _ => 0))))] s.heap.size = A at hD ⊢
  have hA : ∀ q : Nat, s.heap.size ≤ q → A q := fun q h => by rw [← hAe]; exact Or.inr h
  have hS : va_S A s.heap s.heap [] := va_S.rf
  have hP : va_P D vwCl [((mm 0), .inr (7, [.int 0, .ref (mm 1), .ref (mm 2), .ref (mm 3), .ref (mm 4), .ref (mm 5), .int 0, .int 0, .int 0, .int 0, .int 0, .int 0, .int 0, .int 0, .int 0, .int (-1), .int 0, .ref (mm 6), .int 0, .ref (mm 7), .ref (mm 8), .ref (mm 9), .int 0, .ref (mm 10), .ref (mm 11), .int 0, .int 0, .ref (mm 12), .ref (mm 13), .int 0, .ref (mm 14), .ref (mm 15), .ref (mm 16)])), ((mm 14), .inl (k 0, 4, .inl rs)), ((mm 15), .inl (k 0, 4, .inl (fun _ => 0))), ((mm 16), .inl (k 1, 160, .inr (.inl (fun _ => 0))))] s.heap := hP
  have hl := lv_entry ([.ref (mm 0), .int a, .int x, .int z]) (n := 5) (Nat.le_of_ble_eq_true rfl)
  rw [lg_entry_eq]
  generalize (lg_sl ([.ref (mm 0), .int a, .int x, .int z]) ++ List.replicate (5 - (lg_sl ([.ref (mm 0), .int a, .int x, .int z])).length) Slot.unset).toArray = ls at hl ⊢
  have hl : lv_has ls 5 [(0, .ref (mm 0)), (1, .int a), (2, .int x), (3, .int z)] := hl
  refine lv_aload_n hx hb dX8_numbers_0 rfl (lv_at hl 0 rfl) ?_
  refine lv_iconst (v := 0) hx hb dX8_numbers_1 (by decide) ?_
  refine va_put (D := D) (ci := 7) (v := .int 0) (ty := .int) (C := RX8) (T := TX8) (N := 33) hx hb hts inlX8 tyX8 tyX8_ok nmX8 hown hK hP hD hS 0 rfl rfl 0 (by decide) (hts _ mw_125) (fun _ h9 => h9) rfl (by decide +kernel) rfl rfl (Nat.le_of_ble_eq_true rfl) dX8_numbers_2 (fun H locs hP hD hS => ?_)
  have hP : va_P D vwCl [((mm 0), .inr (7, [.int 0, .ref (mm 1), .ref (mm 2), .ref (mm 3), .ref (mm 4), .ref (mm 5), .int 0, .int 0, .int 0, .int 0, .int 0, .int 0, .int 0, .int 0, .int 0, .int (-1), .int 0, .ref (mm 6), .int 0, .ref (mm 7), .ref (mm 8), .ref (mm 9), .int 0, .ref (mm 10), .ref (mm 11), .int 0, .int 0, .ref (mm 12), .ref (mm 13), .int 0, .ref (mm 14), .ref (mm 15), .ref (mm 16)])), ((mm 14), .inl (k 0, 4, .inl rs)), ((mm 15), .inl (k 0, 4, .inl (fun _ => 0))), ((mm 16), .inl (k 1, 160, .inr (.inl (fun _ => 0))))] H := hP
  have hD : va_D A [((mm 0), .inr (7, [.int 0, .ref (mm 1), .ref (mm 2), .ref (mm 3), .ref (mm 4), .ref (mm 5), .int 0, .int 0, .int 0, .int 0, .int 0, .int 0, .int 0, .int 0, .int 0, .int (-1), .int 0, .ref (mm 6), .int 0, .ref (mm 7), .ref (mm 8), .ref (mm 9), .int 0, .ref (mm 10), .ref (mm 11), .int 0, .int 0, .ref (mm 12), .ref (mm 13), .int 0, .ref (mm 14), .ref (mm 15), .ref (mm 16)])), ((mm 14), .inl (k 0, 4, .inl rs)), ((mm 15), .inl (k 0, 4, .inl (fun _ => 0))), ((mm 16), .inl (k 1, 160, .inr (.inl (fun _ => 0))))] := hD
  refine lv_iload_n hx hb dX8_numbers_5 rfl (lv_at hl 1 rfl) ?_
  refine lv_i2l (v := a.toInt64) hx hb dX8_numbers_6 rfl ?_
  refine lv_lconst (v := 0) hx hb dX8_numbers_7 (by decide) ?_
  refine lv_ldc2 (own := RX8) (index := 220) (v := 3) hx hb hown (hts _ mw_592) dX8_numbers_8 ?_
  refine kS_i (As := [.long a.toInt64, .long 0, .long 3]) (rest := []) (cs := []) ⟨hx, hb, hml, hown, hts⟩ (c_M_within l D k a 0 3) (gS mw_294 mw_295 mw_5 mw_296) hd_yX8_within rfl rfl ⟨Nat.le_of_ble_eq_true rfl, Nat.le_of_ble_eq_true rfl⟩ hK (hP.sub (ws' := []) [] rfl) rfl hl.1 rfl (Nat.le_of_ble_eq_true rfl) dX8_numbers_11 ⟨Nat.le_of_ble_eq_true rfl, Nat.le_of_ble_eq_true rfl⟩ (fun r_1 hr_1 => ?_)
  by_cases hc_2 : 0 ≤ a.toInt ∧ a.toInt ≤ 3
  · obtain rfl : r_1 = 1 := hr_1.trans (if_pos hc_2)
    refine lv_if_eq (tgt := 29) hx hb dX8_numbers_14 (by decide) (fun c9 => absurd c9 (by decide)) (fun _ => ?_)
    refine lv_iload_n hx hb dX8_numbers_17 rfl (lv_at hl 2 rfl) ?_
    refine lv_i2l (v := x.toInt64) hx hb dX8_numbers_18 rfl ?_
    refine lv_lconst (v := 0) hx hb dX8_numbers_19 (by decide) ?_
    refine lv_ldc2 (own := RX8) (index := 220) (v := 3) hx hb hown (hts _ mw_592) dX8_numbers_20 ?_
    refine kS_i (As := [.long x.toInt64, .long 0, .long 3]) (rest := []) (cs := []) ⟨hx, hb, hml, hown, hts⟩ (c_M_within l D k x 0 3) (gS mw_294 mw_295 mw_5 mw_296) hd_yX8_within rfl rfl ⟨Nat.le_of_ble_eq_true rfl, Nat.le_of_ble_eq_true rfl⟩ hK (hP.sub (ws' := []) [] rfl) rfl hl.1 rfl (Nat.le_of_ble_eq_true rfl) dX8_numbers_23 ⟨Nat.le_of_ble_eq_true rfl, Nat.le_of_ble_eq_true rfl⟩ (fun r_3 hr_3 => ?_)
    by_cases hc_4 : 0 ≤ x.toInt ∧ x.toInt ≤ 3
    · obtain rfl : r_3 = 1 := hr_3.trans (if_pos hc_4)
      refine lv_if_ne (tgt := 32) hx hb dX8_numbers_26 (by decide) (fun _ => ?_) (fun c9 => absurd c9 (by decide))
      refine lv_iload_n hx hb dX8_numbers_32 rfl (lv_at hl 3 rfl) ?_
      refine lv_i2l (v := z.toInt64) hx hb dX8_numbers_33 rfl ?_
      refine lv_lconst (v := 0) hx hb dX8_numbers_34 (by decide) ?_
      refine lv_ldc2 (own := RX8) (index := 323) (v := 40) hx hb hown (hts _ mw_1139) dX8_numbers_35 ?_
      refine kS_i (As := [.long z.toInt64, .long 0, .long 40]) (rest := []) (cs := []) ⟨hx, hb, hml, hown, hts⟩ (c_M_within l D k z 0 40) (gS mw_294 mw_295 mw_5 mw_296) hd_yX8_within rfl rfl ⟨Nat.le_of_ble_eq_true rfl, Nat.le_of_ble_eq_true rfl⟩ hK (hP.sub (ws' := []) [] rfl) rfl hl.1 rfl (Nat.le_of_ble_eq_true rfl) dX8_numbers_38 ⟨Nat.le_of_ble_eq_true rfl, Nat.le_of_ble_eq_true rfl⟩ (fun r_5 hr_5 => ?_)
      by_cases hc_6 : 0 ≤ z.toInt ∧ z.toInt ≤ 40
      · obtain rfl : r_5 = 1 := hr_5.trans (if_pos hc_6)
        refine lv_if_ne (tgt := 47) hx hb dX8_numbers_41 (by decide) (fun _ => ?_) (fun c9 => absurd c9 (by decide))
        rcases (show a.toInt = 0 ∨ a.toInt = 1 ∨ a.toInt = 2 ∨ a.toInt = 3 from by omega) with c_7 | c_8 | c_9 | c_10
        · have qc_7 : a = 0 := ti_of (show a.toInt = 0 from c_7)
          refine lv_aload_n hx hb dX8_numbers_47 rfl (lv_at hl 0 rfl) ?_
          refine va_get (D := D) (ci := 7) (v := .ref (mm 14)) (C := RX8) (T := TX8) (N := 33) hx hb hts inlX8 hown hK hP 0 rfl rfl 30 (by decide) (hts _ mw_105) (fun _ h9 => h9) rfl dX8_numbers_48 ?_
          refine lv_iload_n hx hb dX8_numbers_51 rfl (lv_at hl 1 rfl) ?_
          refine lv_ni (v := 0) (qc_7) ?_
          refine lv_iload_n hx hb dX8_numbers_52 rfl (lv_at hl 2 rfl) ?_
          refine va_iast hx hb hK hP hD hS 1 0 rfl rfl (vp_in_c (by decide)) dX8_numbers_53 (fun H locs hP hD hS => ?_)
          have hP : va_P D vwCl [((mm 0), .inr (7, [.int 0, .ref (mm 1), .ref (mm 2), .ref (mm 3), .ref (mm 4), .ref (mm 5), .int 0, .int 0, .int 0, .int 0, .int 0, .int 0, .int 0, .int 0, .int 0, .int (-1), .int 0, .ref (mm 6), .int 0, .ref (mm 7), .ref (mm 8), .ref (mm 9), .int 0, .ref (mm 10), .ref (mm 11), .int 0, .int 0, .ref (mm 12), .ref (mm 13), .int 0, .ref (mm 14), .ref (mm 15), .ref (mm 16)])), ((mm 14), .inl (k 0, 4, .inl (upd rs (0 : Int32).toNatClampNeg x))), ((mm 15), .inl (k 0, 4, .inl (fun _ => 0))), ((mm 16), .inl (k 1, 160, .inr (.inl (fun _ => 0))))] H := hP
          have hD : va_D A [((mm 0), .inr (7, [.int 0, .ref (mm 1), .ref (mm 2), .ref (mm 3), .ref (mm 4), .ref (mm 5), .int 0, .int 0, .int 0, .int 0, .int 0, .int 0, .int 0, .int 0, .int 0, .int (-1), .int 0, .ref (mm 6), .int 0, .ref (mm 7), .ref (mm 8), .ref (mm 9), .int 0, .ref (mm 10), .ref (mm 11), .int 0, .int 0, .ref (mm 12), .ref (mm 13), .int 0, .ref (mm 14), .ref (mm 15), .ref (mm 16)])), ((mm 14), .inl (k 0, 4, .inl (upd rs (0 : Int32).toNatClampNeg x))), ((mm 15), .inl (k 0, 4, .inl (fun _ => 0))), ((mm 16), .inl (k 1, 160, .inr (.inl (fun _ => 0))))] := hD
          generalize ef_11 : (upd rs (0 : Int32).toNatClampNeg x) = f_11 at hP hD
          refine lv_aload_n hx hb dX8_numbers_54 rfl (lv_at hl 0 rfl) ?_
          refine va_get (D := D) (ci := 7) (v := .ref (mm 15)) (C := RX8) (T := TX8) (N := 33) hx hb hts inlX8 hown hK hP 0 rfl rfl 31 (by decide) (hts _ mw_106) (fun _ h9 => h9) rfl dX8_numbers_55 ?_
          refine lv_iload_n hx hb dX8_numbers_58 rfl (lv_at hl 1 rfl) ?_
          refine lv_ni (v := 0) (qc_7) ?_
          refine lv_iload_n hx hb dX8_numbers_59 rfl (lv_at hl 3 rfl) ?_
          refine va_iast hx hb hK hP hD hS 2 0 rfl rfl (vp_in_c (by decide)) dX8_numbers_60 (fun H locs hP hD hS => ?_)
          have hP : va_P D vwCl [((mm 0), .inr (7, [.int 0, .ref (mm 1), .ref (mm 2), .ref (mm 3), .ref (mm 4), .ref (mm 5), .int 0, .int 0, .int 0, .int 0, .int 0, .int 0, .int 0, .int 0, .int 0, .int (-1), .int 0, .ref (mm 6), .int 0, .ref (mm 7), .ref (mm 8), .ref (mm 9), .int 0, .ref (mm 10), .ref (mm 11), .int 0, .int 0, .ref (mm 12), .ref (mm 13), .int 0, .ref (mm 14), .ref (mm 15), .ref (mm 16)])), ((mm 14), .inl (k 0, 4, .inl f_11)), ((mm 15), .inl (k 0, 4, .inl (upd (fun _ => 0) (0 : Int32).toNatClampNeg z))), ((mm 16), .inl (k 1, 160, .inr (.inl (fun _ => 0))))] H := hP
          have hD : va_D A [((mm 0), .inr (7, [.int 0, .ref (mm 1), .ref (mm 2), .ref (mm 3), .ref (mm 4), .ref (mm 5), .int 0, .int 0, .int 0, .int 0, .int 0, .int 0, .int 0, .int 0, .int 0, .int (-1), .int 0, .ref (mm 6), .int 0, .ref (mm 7), .ref (mm 8), .ref (mm 9), .int 0, .ref (mm 10), .ref (mm 11), .int 0, .int 0, .ref (mm 12), .ref (mm 13), .int 0, .ref (mm 14), .ref (mm 15), .ref (mm 16)])), ((mm 14), .inl (k 0, 4, .inl f_11)), ((mm 15), .inl (k 0, 4, .inl (upd (fun _ => 0) (0 : Int32).toNatClampNeg z))), ((mm 16), .inl (k 1, 160, .inr (.inl (fun _ => 0))))] := hD
          generalize ef_12 : (upd (fun _ => 0) (0 : Int32).toNatClampNeg z) = f_12 at hP hD
          refine lv_iconst (v := 0) hx hb dX8_numbers_61 (by decide) ?_
          refine lv_istore (lv' := [(4, .int 0), (0, .ref (mm 0)), (1, .int a), (2, .int x), (3, .int z)]) hx hb dX8_numbers_62 hl (by decide) rfl (fun ls hl => ?_)
          refine W_loop (σ := Int32) (fun xx H locs ls => (0 ≤ xx.toInt ∧ xx.toInt ≤ z.toInt) ∧ va_P D vwCl [((mm 0), .inr (7, [.int 0, .ref (mm 1), .ref (mm 2), .ref (mm 3), .ref (mm 4), .ref (mm 5), .int 0, .int 0, .int 0, .int 0, .int 0, .int 0, .int 0, .int 0, .int 0, .int (-1), .int 0, .ref (mm 6), .int 0, .ref (mm 7), .ref (mm 8), .ref (mm 9), .int 0, .ref (mm 10), .ref (mm 11), .int 0, .int 0, .ref (mm 12), .ref (mm 13), .int 0, .ref (mm 14), .ref (mm 15), .ref (mm 16)])), ((mm 14), .inl (k 0, 4, .inl f_11)), ((mm 15), .inl (k 0, 4, .inl f_12)), ((mm 16), .inl (k 1, 160, .inr (.inl (fun _ => 0))))] H ∧ va_D A [((mm 0), .inr (7, [.int 0, .ref (mm 1), .ref (mm 2), .ref (mm 3), .ref (mm 4), .ref (mm 5), .int 0, .int 0, .int 0, .int 0, .int 0, .int 0, .int 0, .int 0, .int 0, .int (-1), .int 0, .ref (mm 6), .int 0, .ref (mm 7), .ref (mm 8), .ref (mm 9), .int 0, .ref (mm 10), .ref (mm 11), .int 0, .int 0, .ref (mm 12), .ref (mm 13), .int 0, .ref (mm 14), .ref (mm 15), .ref (mm 16)])), ((mm 14), .inl (k 0, 4, .inl f_11)), ((mm 15), .inl (k 0, 4, .inl f_12)), ((mm 16), .inl (k 1, 160, .inr (.inl (fun _ => 0))))] ∧ va_S A s.heap H locs ∧ lv_has ls 5 [(4, .int xx), (0, .ref (mm 0)), (1, .int a), (2, .int x), (3, .int z)]) (fun xx => (z.toInt - xx.toInt).toNat) ?_ (0) _ _ ls ⟨(show 0 ≤ (0 : Int32).toInt ∧ (0 : Int32).toInt ≤ z.toInt from ⟨by decide, by rw [show (0 : Int32).toInt = 0 from by decide]; omega⟩), hP.sub [0, 1, 2, 3] rfl, hD.sub [0, 1, 2, 3] (by decide) rfl, hS, lv_sub hl [0, 1, 2, 3, 4] rfl⟩
          intro xx H locs ls hI ih
          obtain ⟨i_13, rfl⟩ : ∃ z, z = xx := ⟨_, rfl⟩
          obtain ⟨h_14, hP, hD, hS, hl⟩ := hI
          have h_14 : 0 ≤ i_13.toInt ∧ i_13.toInt ≤ z.toInt := h_14
          obtain ⟨h_14a, h_14b⟩ := h_14
          have hP : va_P D vwCl [((mm 0), .inr (7, [.int 0, .ref (mm 1), .ref (mm 2), .ref (mm 3), .ref (mm 4), .ref (mm 5), .int 0, .int 0, .int 0, .int 0, .int 0, .int 0, .int 0, .int 0, .int 0, .int (-1), .int 0, .ref (mm 6), .int 0, .ref (mm 7), .ref (mm 8), .ref (mm 9), .int 0, .ref (mm 10), .ref (mm 11), .int 0, .int 0, .ref (mm 12), .ref (mm 13), .int 0, .ref (mm 14), .ref (mm 15), .ref (mm 16)])), ((mm 14), .inl (k 0, 4, .inl f_11)), ((mm 15), .inl (k 0, 4, .inl f_12)), ((mm 16), .inl (k 1, 160, .inr (.inl (fun _ => 0))))] H := hP
          have hD : va_D A [((mm 0), .inr (7, [.int 0, .ref (mm 1), .ref (mm 2), .ref (mm 3), .ref (mm 4), .ref (mm 5), .int 0, .int 0, .int 0, .int 0, .int 0, .int 0, .int 0, .int 0, .int 0, .int (-1), .int 0, .ref (mm 6), .int 0, .ref (mm 7), .ref (mm 8), .ref (mm 9), .int 0, .ref (mm 10), .ref (mm 11), .int 0, .int 0, .ref (mm 12), .ref (mm 13), .int 0, .ref (mm 14), .ref (mm 15), .ref (mm 16)])), ((mm 14), .inl (k 0, 4, .inl f_11)), ((mm 15), .inl (k 0, 4, .inl f_12)), ((mm 16), .inl (k 1, 160, .inr (.inl (fun _ => 0))))] := hD
          have hl : lv_has ls 5 [(4, .int i_13), (0, .ref (mm 0)), (1, .int a), (2, .int x), (3, .int z)] := hl
          refine lv_iload hx hb dX8_numbers_64 (lv_at hl 0 rfl) ?_
          refine lv_iload_n hx hb dX8_numbers_66 rfl (lv_at hl 4 rfl) ?_
          refine lv_icmp_ge (tgt := 89) hx hb dX8_numbers_67 (by decide) (fun c_15 => ?_) (fun c_15 => ?_)
          · have c_15 : z.toInt ≤ i_13.toInt := ti_le c_15
            refine lv_iconst (v := 0) hx hb dX8_numbers_89 (by decide) ?_
            have hP9 := hP.sub (ws' := []) [] rfl
            have hD9 := hD.sub (ws' := []) [] (by decide) rfl
            exact W.iret (v := 0) hx hb hr (fun t ht hW => ⟨⟨0, (), rfl, (by (repeat' split) <;> first | rfl | (exfalso; omega)), by rw [ht]; exact hP9, hD9⟩, hS.F ht⟩) hS.2.2 dX8_numbers_90
          · have c_15 : i_13.toInt < z.toInt := ti_nle c_15
            refine lv_aload_n hx hb dX8_numbers_70 rfl (lv_at hl 1 rfl) ?_
            refine va_get (D := D) (ci := 7) (v := .ref (mm 16)) (C := RX8) (T := TX8) (N := 33) hx hb hts inlX8 hown hK hP 0 rfl rfl 32 (by decide) (hts _ mw_107) (fun _ h9 => h9) rfl dX8_numbers_71 ?_
            refine lv_bipush (v := 40) hx hb dX8_numbers_74 (by decide) ?_
            refine lv_iload_n hx hb dX8_numbers_76 rfl (lv_at hl 2 rfl) ?_
            refine lv_ni (v := 0) (qc_7) ?_
            refine lv_imul hx hb dX8_numbers_77 ?_
            refine lv_ni (v := 0) (by decide) ?_
            refine lv_iload hx hb dX8_numbers_78 (lv_at hl 0 rfl) ?_
            refine lv_iadd hx hb dX8_numbers_80 ?_
            refine lv_topi (fun z_16 ez_16 => ?_)
            have tz_16 : z_16.toInt = 0 + i_13.toInt := by rw [ez_16]; exact ti_addcl (by decide) (by omega) (by omega)
            refine lv_lconst (v := 0) hx hb dX8_numbers_81 (by decide) ?_
            refine va_last hx hb hK hP hD hS 3 1 rfl rfl (vp_in_o (by omega) (by omega)) dX8_numbers_82 (fun H locs hP hD hS => ?_)
            have hP : va_P D vwCl [((mm 0), .inr (7, [.int 0, .ref (mm 1), .ref (mm 2), .ref (mm 3), .ref (mm 4), .ref (mm 5), .int 0, .int 0, .int 0, .int 0, .int 0, .int 0, .int 0, .int 0, .int 0, .int (-1), .int 0, .ref (mm 6), .int 0, .ref (mm 7), .ref (mm 8), .ref (mm 9), .int 0, .ref (mm 10), .ref (mm 11), .int 0, .int 0, .ref (mm 12), .ref (mm 13), .int 0, .ref (mm 14), .ref (mm 15), .ref (mm 16)])), ((mm 14), .inl (k 0, 4, .inl f_11)), ((mm 15), .inl (k 0, 4, .inl f_12)), ((mm 16), .inl (k 1, 160, .inr (.inl (vp_updL (fun _ => 0) z_16.toNatClampNeg 0))))] H := hP
            have hD : va_D A [((mm 0), .inr (7, [.int 0, .ref (mm 1), .ref (mm 2), .ref (mm 3), .ref (mm 4), .ref (mm 5), .int 0, .int 0, .int 0, .int 0, .int 0, .int 0, .int 0, .int 0, .int 0, .int (-1), .int 0, .ref (mm 6), .int 0, .ref (mm 7), .ref (mm 8), .ref (mm 9), .int 0, .ref (mm 10), .ref (mm 11), .int 0, .int 0, .ref (mm 12), .ref (mm 13), .int 0, .ref (mm 14), .ref (mm 15), .ref (mm 16)])), ((mm 14), .inl (k 0, 4, .inl f_11)), ((mm 15), .inl (k 0, 4, .inl f_12)), ((mm 16), .inl (k 1, 160, .inr (.inl (vp_updL (fun _ => 0) z_16.toNatClampNeg 0))))] := hD
            rw [updL0] at hP hD
            obtain ⟨z_17, ez_17⟩ : ∃ y : Int32, y = i_13 + 1 := ⟨_, rfl⟩
            have tz_17 : z_17.toInt = i_13.toInt + 1 := by rw [ez_17]; exact ti_addc (by decide) (by omega) (by omega)
            refine lv_iinc (v := z_17) (lv' := [(4, .int z_17), (0, .ref (mm 0)), (1, .int a), (2, .int x), (3, .int z)]) hx hb dX8_numbers_83 hl (k := 0) rfl (ez_17.symm) (by decide) rfl (fun ls hl => ?_)
            refine lv_goto (tgt := 64) hx hb dX8_numbers_86 (by decide) ?_
            exact ih (z_17) _ _ ls (by show (z.toInt - z_17.toInt).toNat < (z.toInt - i_13.toInt).toNat; omega) ⟨(show 0 ≤ z_17.toInt ∧ z_17.toInt ≤ z.toInt from ⟨by omega, by omega⟩), hP.sub [0, 1, 2, 3] rfl, hD.sub [0, 1, 2, 3] (by decide) rfl, hS, lv_sub hl [0, 1, 2, 3, 4] rfl⟩
        · have qc_8 : a = 1 := ti_of (show a.toInt = 1 from c_8)
          refine lv_aload_n hx hb dX8_numbers_47 rfl (lv_at hl 0 rfl) ?_
          refine va_get (D := D) (ci := 7) (v := .ref (mm 14)) (C := RX8) (T := TX8) (N := 33) hx hb hts inlX8 hown hK hP 0 rfl rfl 30 (by decide) (hts _ mw_105) (fun _ h9 => h9) rfl dX8_numbers_48 ?_
          refine lv_iload_n hx hb dX8_numbers_51 rfl (lv_at hl 1 rfl) ?_
          refine lv_ni (v := 1) (qc_8) ?_
          refine lv_iload_n hx hb dX8_numbers_52 rfl (lv_at hl 2 rfl) ?_
          refine va_iast hx hb hK hP hD hS 1 0 rfl rfl (vp_in_c (by decide)) dX8_numbers_53 (fun H locs hP hD hS => ?_)
          have hP : va_P D vwCl [((mm 0), .inr (7, [.int 0, .ref (mm 1), .ref (mm 2), .ref (mm 3), .ref (mm 4), .ref (mm 5), .int 0, .int 0, .int 0, .int 0, .int 0, .int 0, .int 0, .int 0, .int 0, .int (-1), .int 0, .ref (mm 6), .int 0, .ref (mm 7), .ref (mm 8), .ref (mm 9), .int 0, .ref (mm 10), .ref (mm 11), .int 0, .int 0, .ref (mm 12), .ref (mm 13), .int 0, .ref (mm 14), .ref (mm 15), .ref (mm 16)])), ((mm 14), .inl (k 0, 4, .inl (upd rs (1 : Int32).toNatClampNeg x))), ((mm 15), .inl (k 0, 4, .inl (fun _ => 0))), ((mm 16), .inl (k 1, 160, .inr (.inl (fun _ => 0))))] H := hP
          have hD : va_D A [((mm 0), .inr (7, [.int 0, .ref (mm 1), .ref (mm 2), .ref (mm 3), .ref (mm 4), .ref (mm 5), .int 0, .int 0, .int 0, .int 0, .int 0, .int 0, .int 0, .int 0, .int 0, .int (-1), .int 0, .ref (mm 6), .int 0, .ref (mm 7), .ref (mm 8), .ref (mm 9), .int 0, .ref (mm 10), .ref (mm 11), .int 0, .int 0, .ref (mm 12), .ref (mm 13), .int 0, .ref (mm 14), .ref (mm 15), .ref (mm 16)])), ((mm 14), .inl (k 0, 4, .inl (upd rs (1 : Int32).toNatClampNeg x))), ((mm 15), .inl (k 0, 4, .inl (fun _ => 0))), ((mm 16), .inl (k 1, 160, .inr (.inl (fun _ => 0))))] := hD
          generalize ef_18 : (upd rs (1 : Int32).toNatClampNeg x) = f_18 at hP hD
          refine lv_aload_n hx hb dX8_numbers_54 rfl (lv_at hl 0 rfl) ?_
          refine va_get (D := D) (ci := 7) (v := .ref (mm 15)) (C := RX8) (T := TX8) (N := 33) hx hb hts inlX8 hown hK hP 0 rfl rfl 31 (by decide) (hts _ mw_106) (fun _ h9 => h9) rfl dX8_numbers_55 ?_
          refine lv_iload_n hx hb dX8_numbers_58 rfl (lv_at hl 1 rfl) ?_
          refine lv_ni (v := 1) (qc_8) ?_
          refine lv_iload_n hx hb dX8_numbers_59 rfl (lv_at hl 3 rfl) ?_
          refine va_iast hx hb hK hP hD hS 2 0 rfl rfl (vp_in_c (by decide)) dX8_numbers_60 (fun H locs hP hD hS => ?_)
          have hP : va_P D vwCl [((mm 0), .inr (7, [.int 0, .ref (mm 1), .ref (mm 2), .ref (mm 3), .ref (mm 4), .ref (mm 5), .int 0, .int 0, .int 0, .int 0, .int 0, .int 0, .int 0, .int 0, .int 0, .int (-1), .int 0, .ref (mm 6), .int 0, .ref (mm 7), .ref (mm 8), .ref (mm 9), .int 0, .ref (mm 10), .ref (mm 11), .int 0, .int 0, .ref (mm 12), .ref (mm 13), .int 0, .ref (mm 14), .ref (mm 15), .ref (mm 16)])), ((mm 14), .inl (k 0, 4, .inl f_18)), ((mm 15), .inl (k 0, 4, .inl (upd (fun _ => 0) (1 : Int32).toNatClampNeg z))), ((mm 16), .inl (k 1, 160, .inr (.inl (fun _ => 0))))] H := hP
          have hD : va_D A [((mm 0), .inr (7, [.int 0, .ref (mm 1), .ref (mm 2), .ref (mm 3), .ref (mm 4), .ref (mm 5), .int 0, .int 0, .int 0, .int 0, .int 0, .int 0, .int 0, .int 0, .int 0, .int (-1), .int 0, .ref (mm 6), .int 0, .ref (mm 7), .ref (mm 8), .ref (mm 9), .int 0, .ref (mm 10), .ref (mm 11), .int 0, .int 0, .ref (mm 12), .ref (mm 13), .int 0, .ref (mm 14), .ref (mm 15), .ref (mm 16)])), ((mm 14), .inl (k 0, 4, .inl f_18)), ((mm 15), .inl (k 0, 4, .inl (upd (fun _ => 0) (1 : Int32).toNatClampNeg z))), ((mm 16), .inl (k 1, 160, .inr (.inl (fun _ => 0))))] := hD
          generalize ef_19 : (upd (fun _ => 0) (1 : Int32).toNatClampNeg z) = f_19 at hP hD
          refine lv_iconst (v := 0) hx hb dX8_numbers_61 (by decide) ?_
          refine lv_istore (lv' := [(4, .int 0), (0, .ref (mm 0)), (1, .int a), (2, .int x), (3, .int z)]) hx hb dX8_numbers_62 hl (by decide) rfl (fun ls hl => ?_)
          refine W_loop (σ := Int32) (fun xx H locs ls => (0 ≤ xx.toInt ∧ xx.toInt ≤ z.toInt) ∧ va_P D vwCl [((mm 0), .inr (7, [.int 0, .ref (mm 1), .ref (mm 2), .ref (mm 3), .ref (mm 4), .ref (mm 5), .int 0, .int 0, .int 0, .int 0, .int 0, .int 0, .int 0, .int 0, .int 0, .int (-1), .int 0, .ref (mm 6), .int 0, .ref (mm 7), .ref (mm 8), .ref (mm 9), .int 0, .ref (mm 10), .ref (mm 11), .int 0, .int 0, .ref (mm 12), .ref (mm 13), .int 0, .ref (mm 14), .ref (mm 15), .ref (mm 16)])), ((mm 14), .inl (k 0, 4, .inl f_18)), ((mm 15), .inl (k 0, 4, .inl f_19)), ((mm 16), .inl (k 1, 160, .inr (.inl (fun _ => 0))))] H ∧ va_D A [((mm 0), .inr (7, [.int 0, .ref (mm 1), .ref (mm 2), .ref (mm 3), .ref (mm 4), .ref (mm 5), .int 0, .int 0, .int 0, .int 0, .int 0, .int 0, .int 0, .int 0, .int 0, .int (-1), .int 0, .ref (mm 6), .int 0, .ref (mm 7), .ref (mm 8), .ref (mm 9), .int 0, .ref (mm 10), .ref (mm 11), .int 0, .int 0, .ref (mm 12), .ref (mm 13), .int 0, .ref (mm 14), .ref (mm 15), .ref (mm 16)])), ((mm 14), .inl (k 0, 4, .inl f_18)), ((mm 15), .inl (k 0, 4, .inl f_19)), ((mm 16), .inl (k 1, 160, .inr (.inl (fun _ => 0))))] ∧ va_S A s.heap H locs ∧ lv_has ls 5 [(4, .int xx), (0, .ref (mm 0)), (1, .int a), (2, .int x), (3, .int z)]) (fun xx => (z.toInt - xx.toInt).toNat) ?_ (0) _ _ ls ⟨(show 0 ≤ (0 : Int32).toInt ∧ (0 : Int32).toInt ≤ z.toInt from ⟨by decide, by rw [show (0 : Int32).toInt = 0 from by decide]; omega⟩), hP.sub [0, 1, 2, 3] rfl, hD.sub [0, 1, 2, 3] (by decide) rfl, hS, lv_sub hl [0, 1, 2, 3, 4] rfl⟩
          intro xx H locs ls hI ih
          obtain ⟨i_20, rfl⟩ : ∃ z, z = xx := ⟨_, rfl⟩
          obtain ⟨h_21, hP, hD, hS, hl⟩ := hI
          have h_21 : 0 ≤ i_20.toInt ∧ i_20.toInt ≤ z.toInt := h_21
          obtain ⟨h_21a, h_21b⟩ := h_21
          have hP : va_P D vwCl [((mm 0), .inr (7, [.int 0, .ref (mm 1), .ref (mm 2), .ref (mm 3), .ref (mm 4), .ref (mm 5), .int 0, .int 0, .int 0, .int 0, .int 0, .int 0, .int 0, .int 0, .int 0, .int (-1), .int 0, .ref (mm 6), .int 0, .ref (mm 7), .ref (mm 8), .ref (mm 9), .int 0, .ref (mm 10), .ref (mm 11), .int 0, .int 0, .ref (mm 12), .ref (mm 13), .int 0, .ref (mm 14), .ref (mm 15), .ref (mm 16)])), ((mm 14), .inl (k 0, 4, .inl f_18)), ((mm 15), .inl (k 0, 4, .inl f_19)), ((mm 16), .inl (k 1, 160, .inr (.inl (fun _ => 0))))] H := hP
          have hD : va_D A [((mm 0), .inr (7, [.int 0, .ref (mm 1), .ref (mm 2), .ref (mm 3), .ref (mm 4), .ref (mm 5), .int 0, .int 0, .int 0, .int 0, .int 0, .int 0, .int 0, .int 0, .int 0, .int (-1), .int 0, .ref (mm 6), .int 0, .ref (mm 7), .ref (mm 8), .ref (mm 9), .int 0, .ref (mm 10), .ref (mm 11), .int 0, .int 0, .ref (mm 12), .ref (mm 13), .int 0, .ref (mm 14), .ref (mm 15), .ref (mm 16)])), ((mm 14), .inl (k 0, 4, .inl f_18)), ((mm 15), .inl (k 0, 4, .inl f_19)), ((mm 16), .inl (k 1, 160, .inr (.inl (fun _ => 0))))] := hD
          have hl : lv_has ls 5 [(4, .int i_20), (0, .ref (mm 0)), (1, .int a), (2, .int x), (3, .int z)] := hl
          refine lv_iload hx hb dX8_numbers_64 (lv_at hl 0 rfl) ?_
          refine lv_iload_n hx hb dX8_numbers_66 rfl (lv_at hl 4 rfl) ?_
          refine lv_icmp_ge (tgt := 89) hx hb dX8_numbers_67 (by decide) (fun c_22 => ?_) (fun c_22 => ?_)
          · have c_22 : z.toInt ≤ i_20.toInt := ti_le c_22
            refine lv_iconst (v := 0) hx hb dX8_numbers_89 (by decide) ?_
            have hP9 := hP.sub (ws' := []) [] rfl
            have hD9 := hD.sub (ws' := []) [] (by decide) rfl
            exact W.iret (v := 0) hx hb hr (fun t ht hW => ⟨⟨0, (), rfl, (by (repeat' split) <;> first | rfl | (exfalso; omega)), by rw [ht]; exact hP9, hD9⟩, hS.F ht⟩) hS.2.2 dX8_numbers_90
          · have c_22 : i_20.toInt < z.toInt := ti_nle c_22
            refine lv_aload_n hx hb dX8_numbers_70 rfl (lv_at hl 1 rfl) ?_
            refine va_get (D := D) (ci := 7) (v := .ref (mm 16)) (C := RX8) (T := TX8) (N := 33) hx hb hts inlX8 hown hK hP 0 rfl rfl 32 (by decide) (hts _ mw_107) (fun _ h9 => h9) rfl dX8_numbers_71 ?_
            refine lv_bipush (v := 40) hx hb dX8_numbers_74 (by decide) ?_
            refine lv_iload_n hx hb dX8_numbers_76 rfl (lv_at hl 2 rfl) ?_
            refine lv_ni (v := 1) (qc_8) ?_
            refine lv_imul hx hb dX8_numbers_77 ?_
            refine lv_ni (v := 40) (by decide) ?_
            refine lv_iload hx hb dX8_numbers_78 (lv_at hl 0 rfl) ?_
            refine lv_iadd hx hb dX8_numbers_80 ?_
            refine lv_topi (fun z_23 ez_23 => ?_)
            have tz_23 : z_23.toInt = 40 + i_20.toInt := by rw [ez_23]; exact ti_addcl (by decide) (by omega) (by omega)
            refine lv_lconst (v := 0) hx hb dX8_numbers_81 (by decide) ?_
            refine va_last hx hb hK hP hD hS 3 1 rfl rfl (vp_in_o (by omega) (by omega)) dX8_numbers_82 (fun H locs hP hD hS => ?_)
            have hP : va_P D vwCl [((mm 0), .inr (7, [.int 0, .ref (mm 1), .ref (mm 2), .ref (mm 3), .ref (mm 4), .ref (mm 5), .int 0, .int 0, .int 0, .int 0, .int 0, .int 0, .int 0, .int 0, .int 0, .int (-1), .int 0, .ref (mm 6), .int 0, .ref (mm 7), .ref (mm 8), .ref (mm 9), .int 0, .ref (mm 10), .ref (mm 11), .int 0, .int 0, .ref (mm 12), .ref (mm 13), .int 0, .ref (mm 14), .ref (mm 15), .ref (mm 16)])), ((mm 14), .inl (k 0, 4, .inl f_18)), ((mm 15), .inl (k 0, 4, .inl f_19)), ((mm 16), .inl (k 1, 160, .inr (.inl (vp_updL (fun _ => 0) z_23.toNatClampNeg 0))))] H := hP
            have hD : va_D A [((mm 0), .inr (7, [.int 0, .ref (mm 1), .ref (mm 2), .ref (mm 3), .ref (mm 4), .ref (mm 5), .int 0, .int 0, .int 0, .int 0, .int 0, .int 0, .int 0, .int 0, .int 0, .int (-1), .int 0, .ref (mm 6), .int 0, .ref (mm 7), .ref (mm 8), .ref (mm 9), .int 0, .ref (mm 10), .ref (mm 11), .int 0, .int 0, .ref (mm 12), .ref (mm 13), .int 0, .ref (mm 14), .ref (mm 15), .ref (mm 16)])), ((mm 14), .inl (k 0, 4, .inl f_18)), ((mm 15), .inl (k 0, 4, .inl f_19)), ((mm 16), .inl (k 1, 160, .inr (.inl (vp_updL (fun _ => 0) z_23.toNatClampNeg 0))))] := hD
            rw [updL0] at hP hD
            obtain ⟨z_24, ez_24⟩ : ∃ y : Int32, y = i_20 + 1 := ⟨_, rfl⟩
            have tz_24 : z_24.toInt = i_20.toInt + 1 := by rw [ez_24]; exact ti_addc (by decide) (by omega) (by omega)
            refine lv_iinc (v := z_24) (lv' := [(4, .int z_24), (0, .ref (mm 0)), (1, .int a), (2, .int x), (3, .int z)]) hx hb dX8_numbers_83 hl (k := 0) rfl (ez_24.symm) (by decide) rfl (fun ls hl => ?_)
            refine lv_goto (tgt := 64) hx hb dX8_numbers_86 (by decide) ?_
            exact ih (z_24) _ _ ls (by show (z.toInt - z_24.toInt).toNat < (z.toInt - i_20.toInt).toNat; omega) ⟨(show 0 ≤ z_24.toInt ∧ z_24.toInt ≤ z.toInt from ⟨by omega, by omega⟩), hP.sub [0, 1, 2, 3] rfl, hD.sub [0, 1, 2, 3] (by decide) rfl, hS, lv_sub hl [0, 1, 2, 3, 4] rfl⟩
        · have qc_9 : a = 2 := ti_of (show a.toInt = 2 from c_9)
          refine lv_aload_n hx hb dX8_numbers_47 rfl (lv_at hl 0 rfl) ?_
          refine va_get (D := D) (ci := 7) (v := .ref (mm 14)) (C := RX8) (T := TX8) (N := 33) hx hb hts inlX8 hown hK hP 0 rfl rfl 30 (by decide) (hts _ mw_105) (fun _ h9 => h9) rfl dX8_numbers_48 ?_
          refine lv_iload_n hx hb dX8_numbers_51 rfl (lv_at hl 1 rfl) ?_
          refine lv_ni (v := 2) (qc_9) ?_
          refine lv_iload_n hx hb dX8_numbers_52 rfl (lv_at hl 2 rfl) ?_
          refine va_iast hx hb hK hP hD hS 1 0 rfl rfl (vp_in_c (by decide)) dX8_numbers_53 (fun H locs hP hD hS => ?_)
          have hP : va_P D vwCl [((mm 0), .inr (7, [.int 0, .ref (mm 1), .ref (mm 2), .ref (mm 3), .ref (mm 4), .ref (mm 5), .int 0, .int 0, .int 0, .int 0, .int 0, .int 0, .int 0, .int 0, .int 0, .int (-1), .int 0, .ref (mm 6), .int 0, .ref (mm 7), .ref (mm 8), .ref (mm 9), .int 0, .ref (mm 10), .ref (mm 11), .int 0, .int 0, .ref (mm 12), .ref (mm 13), .int 0, .ref (mm 14), .ref (mm 15), .ref (mm 16)])), ((mm 14), .inl (k 0, 4, .inl (upd rs (2 : Int32).toNatClampNeg x))), ((mm 15), .inl (k 0, 4, .inl (fun _ => 0))), ((mm 16), .inl (k 1, 160, .inr (.inl (fun _ => 0))))] H := hP
          have hD : va_D A [((mm 0), .inr (7, [.int 0, .ref (mm 1), .ref (mm 2), .ref (mm 3), .ref (mm 4), .ref (mm 5), .int 0, .int 0, .int 0, .int 0, .int 0, .int 0, .int 0, .int 0, .int 0, .int (-1), .int 0, .ref (mm 6), .int 0, .ref (mm 7), .ref (mm 8), .ref (mm 9), .int 0, .ref (mm 10), .ref (mm 11), .int 0, .int 0, .ref (mm 12), .ref (mm 13), .int 0, .ref (mm 14), .ref (mm 15), .ref (mm 16)])), ((mm 14), .inl (k 0, 4, .inl (upd rs (2 : Int32).toNatClampNeg x))), ((mm 15), .inl (k 0, 4, .inl (fun _ => 0))), ((mm 16), .inl (k 1, 160, .inr (.inl (fun _ => 0))))] := hD
          generalize ef_25 : (upd rs (2 : Int32).toNatClampNeg x) = f_25 at hP hD
          refine lv_aload_n hx hb dX8_numbers_54 rfl (lv_at hl 0 rfl) ?_
          refine va_get (D := D) (ci := 7) (v := .ref (mm 15)) (C := RX8) (T := TX8) (N := 33) hx hb hts inlX8 hown hK hP 0 rfl rfl 31 (by decide) (hts _ mw_106) (fun _ h9 => h9) rfl dX8_numbers_55 ?_
          refine lv_iload_n hx hb dX8_numbers_58 rfl (lv_at hl 1 rfl) ?_
          refine lv_ni (v := 2) (qc_9) ?_
          refine lv_iload_n hx hb dX8_numbers_59 rfl (lv_at hl 3 rfl) ?_
          refine va_iast hx hb hK hP hD hS 2 0 rfl rfl (vp_in_c (by decide)) dX8_numbers_60 (fun H locs hP hD hS => ?_)
          have hP : va_P D vwCl [((mm 0), .inr (7, [.int 0, .ref (mm 1), .ref (mm 2), .ref (mm 3), .ref (mm 4), .ref (mm 5), .int 0, .int 0, .int 0, .int 0, .int 0, .int 0, .int 0, .int 0, .int 0, .int (-1), .int 0, .ref (mm 6), .int 0, .ref (mm 7), .ref (mm 8), .ref (mm 9), .int 0, .ref (mm 10), .ref (mm 11), .int 0, .int 0, .ref (mm 12), .ref (mm 13), .int 0, .ref (mm 14), .ref (mm 15), .ref (mm 16)])), ((mm 14), .inl (k 0, 4, .inl f_25)), ((mm 15), .inl (k 0, 4, .inl (upd (fun _ => 0) (2 : Int32).toNatClampNeg z))), ((mm 16), .inl (k 1, 160, .inr (.inl (fun _ => 0))))] H := hP
          have hD : va_D A [((mm 0), .inr (7, [.int 0, .ref (mm 1), .ref (mm 2), .ref (mm 3), .ref (mm 4), .ref (mm 5), .int 0, .int 0, .int 0, .int 0, .int 0, .int 0, .int 0, .int 0, .int 0, .int (-1), .int 0, .ref (mm 6), .int 0, .ref (mm 7), .ref (mm 8), .ref (mm 9), .int 0, .ref (mm 10), .ref (mm 11), .int 0, .int 0, .ref (mm 12), .ref (mm 13), .int 0, .ref (mm 14), .ref (mm 15), .ref (mm 16)])), ((mm 14), .inl (k 0, 4, .inl f_25)), ((mm 15), .inl (k 0, 4, .inl (upd (fun _ => 0) (2 : Int32).toNatClampNeg z))), ((mm 16), .inl (k 1, 160, .inr (.inl (fun _ => 0))))] := hD
          generalize ef_26 : (upd (fun _ => 0) (2 : Int32).toNatClampNeg z) = f_26 at hP hD
          refine lv_iconst (v := 0) hx hb dX8_numbers_61 (by decide) ?_
          refine lv_istore (lv' := [(4, .int 0), (0, .ref (mm 0)), (1, .int a), (2, .int x), (3, .int z)]) hx hb dX8_numbers_62 hl (by decide) rfl (fun ls hl => ?_)
          refine W_loop (σ := Int32) (fun xx H locs ls => (0 ≤ xx.toInt ∧ xx.toInt ≤ z.toInt) ∧ va_P D vwCl [((mm 0), .inr (7, [.int 0, .ref (mm 1), .ref (mm 2), .ref (mm 3), .ref (mm 4), .ref (mm 5), .int 0, .int 0, .int 0, .int 0, .int 0, .int 0, .int 0, .int 0, .int 0, .int (-1), .int 0, .ref (mm 6), .int 0, .ref (mm 7), .ref (mm 8), .ref (mm 9), .int 0, .ref (mm 10), .ref (mm 11), .int 0, .int 0, .ref (mm 12), .ref (mm 13), .int 0, .ref (mm 14), .ref (mm 15), .ref (mm 16)])), ((mm 14), .inl (k 0, 4, .inl f_25)), ((mm 15), .inl (k 0, 4, .inl f_26)), ((mm 16), .inl (k 1, 160, .inr (.inl (fun _ => 0))))] H ∧ va_D A [((mm 0), .inr (7, [.int 0, .ref (mm 1), .ref (mm 2), .ref (mm 3), .ref (mm 4), .ref (mm 5), .int 0, .int 0, .int 0, .int 0, .int 0, .int 0, .int 0, .int 0, .int 0, .int (-1), .int 0, .ref (mm 6), .int 0, .ref (mm 7), .ref (mm 8), .ref (mm 9), .int 0, .ref (mm 10), .ref (mm 11), .int 0, .int 0, .ref (mm 12), .ref (mm 13), .int 0, .ref (mm 14), .ref (mm 15), .ref (mm 16)])), ((mm 14), .inl (k 0, 4, .inl f_25)), ((mm 15), .inl (k 0, 4, .inl f_26)), ((mm 16), .inl (k 1, 160, .inr (.inl (fun _ => 0))))] ∧ va_S A s.heap H locs ∧ lv_has ls 5 [(4, .int xx), (0, .ref (mm 0)), (1, .int a), (2, .int x), (3, .int z)]) (fun xx => (z.toInt - xx.toInt).toNat) ?_ (0) _ _ ls ⟨(show 0 ≤ (0 : Int32).toInt ∧ (0 : Int32).toInt ≤ z.toInt from ⟨by decide, by rw [show (0 : Int32).toInt = 0 from by decide]; omega⟩), hP.sub [0, 1, 2, 3] rfl, hD.sub [0, 1, 2, 3] (by decide) rfl, hS, lv_sub hl [0, 1, 2, 3, 4] rfl⟩
          intro xx H locs ls hI ih
          obtain ⟨i_27, rfl⟩ : ∃ z, z = xx := ⟨_, rfl⟩
          obtain ⟨h_28, hP, hD, hS, hl⟩ := hI
          have h_28 : 0 ≤ i_27.toInt ∧ i_27.toInt ≤ z.toInt := h_28
          obtain ⟨h_28a, h_28b⟩ := h_28
          have hP : va_P D vwCl [((mm 0), .inr (7, [.int 0, .ref (mm 1), .ref (mm 2), .ref (mm 3), .ref (mm 4), .ref (mm 5), .int 0, .int 0, .int 0, .int 0, .int 0, .int 0, .int 0, .int 0, .int 0, .int (-1), .int 0, .ref (mm 6), .int 0, .ref (mm 7), .ref (mm 8), .ref (mm 9), .int 0, .ref (mm 10), .ref (mm 11), .int 0, .int 0, .ref (mm 12), .ref (mm 13), .int 0, .ref (mm 14), .ref (mm 15), .ref (mm 16)])), ((mm 14), .inl (k 0, 4, .inl f_25)), ((mm 15), .inl (k 0, 4, .inl f_26)), ((mm 16), .inl (k 1, 160, .inr (.inl (fun _ => 0))))] H := hP
          have hD : va_D A [((mm 0), .inr (7, [.int 0, .ref (mm 1), .ref (mm 2), .ref (mm 3), .ref (mm 4), .ref (mm 5), .int 0, .int 0, .int 0, .int 0, .int 0, .int 0, .int 0, .int 0, .int 0, .int (-1), .int 0, .ref (mm 6), .int 0, .ref (mm 7), .ref (mm 8), .ref (mm 9), .int 0, .ref (mm 10), .ref (mm 11), .int 0, .int 0, .ref (mm 12), .ref (mm 13), .int 0, .ref (mm 14), .ref (mm 15), .ref (mm 16)])), ((mm 14), .inl (k 0, 4, .inl f_25)), ((mm 15), .inl (k 0, 4, .inl f_26)), ((mm 16), .inl (k 1, 160, .inr (.inl (fun _ => 0))))] := hD
          have hl : lv_has ls 5 [(4, .int i_27), (0, .ref (mm 0)), (1, .int a), (2, .int x), (3, .int z)] := hl
          refine lv_iload hx hb dX8_numbers_64 (lv_at hl 0 rfl) ?_
          refine lv_iload_n hx hb dX8_numbers_66 rfl (lv_at hl 4 rfl) ?_
          refine lv_icmp_ge (tgt := 89) hx hb dX8_numbers_67 (by decide) (fun c_29 => ?_) (fun c_29 => ?_)
          · have c_29 : z.toInt ≤ i_27.toInt := ti_le c_29
            refine lv_iconst (v := 0) hx hb dX8_numbers_89 (by decide) ?_
            have hP9 := hP.sub (ws' := []) [] rfl
            have hD9 := hD.sub (ws' := []) [] (by decide) rfl
            exact W.iret (v := 0) hx hb hr (fun t ht hW => ⟨⟨0, (), rfl, (by (repeat' split) <;> first | rfl | (exfalso; omega)), by rw [ht]; exact hP9, hD9⟩, hS.F ht⟩) hS.2.2 dX8_numbers_90
          · have c_29 : i_27.toInt < z.toInt := ti_nle c_29
            refine lv_aload_n hx hb dX8_numbers_70 rfl (lv_at hl 1 rfl) ?_
            refine va_get (D := D) (ci := 7) (v := .ref (mm 16)) (C := RX8) (T := TX8) (N := 33) hx hb hts inlX8 hown hK hP 0 rfl rfl 32 (by decide) (hts _ mw_107) (fun _ h9 => h9) rfl dX8_numbers_71 ?_
            refine lv_bipush (v := 40) hx hb dX8_numbers_74 (by decide) ?_
            refine lv_iload_n hx hb dX8_numbers_76 rfl (lv_at hl 2 rfl) ?_
            refine lv_ni (v := 2) (qc_9) ?_
            refine lv_imul hx hb dX8_numbers_77 ?_
            refine lv_ni (v := 80) (by decide) ?_
            refine lv_iload hx hb dX8_numbers_78 (lv_at hl 0 rfl) ?_
            refine lv_iadd hx hb dX8_numbers_80 ?_
            refine lv_topi (fun z_30 ez_30 => ?_)
            have tz_30 : z_30.toInt = 80 + i_27.toInt := by rw [ez_30]; exact ti_addcl (by decide) (by omega) (by omega)
            refine lv_lconst (v := 0) hx hb dX8_numbers_81 (by decide) ?_
            refine va_last hx hb hK hP hD hS 3 1 rfl rfl (vp_in_o (by omega) (by omega)) dX8_numbers_82 (fun H locs hP hD hS => ?_)
            have hP : va_P D vwCl [((mm 0), .inr (7, [.int 0, .ref (mm 1), .ref (mm 2), .ref (mm 3), .ref (mm 4), .ref (mm 5), .int 0, .int 0, .int 0, .int 0, .int 0, .int 0, .int 0, .int 0, .int 0, .int (-1), .int 0, .ref (mm 6), .int 0, .ref (mm 7), .ref (mm 8), .ref (mm 9), .int 0, .ref (mm 10), .ref (mm 11), .int 0, .int 0, .ref (mm 12), .ref (mm 13), .int 0, .ref (mm 14), .ref (mm 15), .ref (mm 16)])), ((mm 14), .inl (k 0, 4, .inl f_25)), ((mm 15), .inl (k 0, 4, .inl f_26)), ((mm 16), .inl (k 1, 160, .inr (.inl (vp_updL (fun _ => 0) z_30.toNatClampNeg 0))))] H := hP
            have hD : va_D A [((mm 0), .inr (7, [.int 0, .ref (mm 1), .ref (mm 2), .ref (mm 3), .ref (mm 4), .ref (mm 5), .int 0, .int 0, .int 0, .int 0, .int 0, .int 0, .int 0, .int 0, .int 0, .int (-1), .int 0, .ref (mm 6), .int 0, .ref (mm 7), .ref (mm 8), .ref (mm 9), .int 0, .ref (mm 10), .ref (mm 11), .int 0, .int 0, .ref (mm 12), .ref (mm 13), .int 0, .ref (mm 14), .ref (mm 15), .ref (mm 16)])), ((mm 14), .inl (k 0, 4, .inl f_25)), ((mm 15), .inl (k 0, 4, .inl f_26)), ((mm 16), .inl (k 1, 160, .inr (.inl (vp_updL (fun _ => 0) z_30.toNatClampNeg 0))))] := hD
            rw [updL0] at hP hD
            obtain ⟨z_31, ez_31⟩ : ∃ y : Int32, y = i_27 + 1 := ⟨_, rfl⟩
            have tz_31 : z_31.toInt = i_27.toInt + 1 := by rw [ez_31]; exact ti_addc (by decide) (by omega) (by omega)
            refine lv_iinc (v := z_31) (lv' := [(4, .int z_31), (0, .ref (mm 0)), (1, .int a), (2, .int x), (3, .int z)]) hx hb dX8_numbers_83 hl (k := 0) rfl (ez_31.symm) (by decide) rfl (fun ls hl => ?_)
            refine lv_goto (tgt := 64) hx hb dX8_numbers_86 (by decide) ?_
            exact ih (z_31) _ _ ls (by show (z.toInt - z_31.toInt).toNat < (z.toInt - i_27.toInt).toNat; omega) ⟨(show 0 ≤ z_31.toInt ∧ z_31.toInt ≤ z.toInt from ⟨by omega, by omega⟩), hP.sub [0, 1, 2, 3] rfl, hD.sub [0, 1, 2, 3] (by decide) rfl, hS, lv_sub hl [0, 1, 2, 3, 4] rfl⟩
        · have qc_10 : a = 3 := ti_of (show a.toInt = 3 from c_10)
          refine lv_aload_n hx hb dX8_numbers_47 rfl (lv_at hl 0 rfl) ?_
          refine va_get (D := D) (ci := 7) (v := .ref (mm 14)) (C := RX8) (T := TX8) (N := 33) hx hb hts inlX8 hown hK hP 0 rfl rfl 30 (by decide) (hts _ mw_105) (fun _ h9 => h9) rfl dX8_numbers_48 ?_
          refine lv_iload_n hx hb dX8_numbers_51 rfl (lv_at hl 1 rfl) ?_
          refine lv_ni (v := 3) (qc_10) ?_
          refine lv_iload_n hx hb dX8_numbers_52 rfl (lv_at hl 2 rfl) ?_
          refine va_iast hx hb hK hP hD hS 1 0 rfl rfl (vp_in_c (by decide)) dX8_numbers_53 (fun H locs hP hD hS => ?_)
          have hP : va_P D vwCl [((mm 0), .inr (7, [.int 0, .ref (mm 1), .ref (mm 2), .ref (mm 3), .ref (mm 4), .ref (mm 5), .int 0, .int 0, .int 0, .int 0, .int 0, .int 0, .int 0, .int 0, .int 0, .int (-1), .int 0, .ref (mm 6), .int 0, .ref (mm 7), .ref (mm 8), .ref (mm 9), .int 0, .ref (mm 10), .ref (mm 11), .int 0, .int 0, .ref (mm 12), .ref (mm 13), .int 0, .ref (mm 14), .ref (mm 15), .ref (mm 16)])), ((mm 14), .inl (k 0, 4, .inl (upd rs (3 : Int32).toNatClampNeg x))), ((mm 15), .inl (k 0, 4, .inl (fun _ => 0))), ((mm 16), .inl (k 1, 160, .inr (.inl (fun _ => 0))))] H := hP
          have hD : va_D A [((mm 0), .inr (7, [.int 0, .ref (mm 1), .ref (mm 2), .ref (mm 3), .ref (mm 4), .ref (mm 5), .int 0, .int 0, .int 0, .int 0, .int 0, .int 0, .int 0, .int 0, .int 0, .int (-1), .int 0, .ref (mm 6), .int 0, .ref (mm 7), .ref (mm 8), .ref (mm 9), .int 0, .ref (mm 10), .ref (mm 11), .int 0, .int 0, .ref (mm 12), .ref (mm 13), .int 0, .ref (mm 14), .ref (mm 15), .ref (mm 16)])), ((mm 14), .inl (k 0, 4, .inl (upd rs (3 : Int32).toNatClampNeg x))), ((mm 15), .inl (k 0, 4, .inl (fun _ => 0))), ((mm 16), .inl (k 1, 160, .inr (.inl (fun _ => 0))))] := hD
          generalize ef_32 : (upd rs (3 : Int32).toNatClampNeg x) = f_32 at hP hD
          refine lv_aload_n hx hb dX8_numbers_54 rfl (lv_at hl 0 rfl) ?_
          refine va_get (D := D) (ci := 7) (v := .ref (mm 15)) (C := RX8) (T := TX8) (N := 33) hx hb hts inlX8 hown hK hP 0 rfl rfl 31 (by decide) (hts _ mw_106) (fun _ h9 => h9) rfl dX8_numbers_55 ?_
          refine lv_iload_n hx hb dX8_numbers_58 rfl (lv_at hl 1 rfl) ?_
          refine lv_ni (v := 3) (qc_10) ?_
          refine lv_iload_n hx hb dX8_numbers_59 rfl (lv_at hl 3 rfl) ?_
          refine va_iast hx hb hK hP hD hS 2 0 rfl rfl (vp_in_c (by decide)) dX8_numbers_60 (fun H locs hP hD hS => ?_)
          have hP : va_P D vwCl [((mm 0), .inr (7, [.int 0, .ref (mm 1), .ref (mm 2), .ref (mm 3), .ref (mm 4), .ref (mm 5), .int 0, .int 0, .int 0, .int 0, .int 0, .int 0, .int 0, .int 0, .int 0, .int (-1), .int 0, .ref (mm 6), .int 0, .ref (mm 7), .ref (mm 8), .ref (mm 9), .int 0, .ref (mm 10), .ref (mm 11), .int 0, .int 0, .ref (mm 12), .ref (mm 13), .int 0, .ref (mm 14), .ref (mm 15), .ref (mm 16)])), ((mm 14), .inl (k 0, 4, .inl f_32)), ((mm 15), .inl (k 0, 4, .inl (upd (fun _ => 0) (3 : Int32).toNatClampNeg z))), ((mm 16), .inl (k 1, 160, .inr (.inl (fun _ => 0))))] H := hP
          have hD : va_D A [((mm 0), .inr (7, [.int 0, .ref (mm 1), .ref (mm 2), .ref (mm 3), .ref (mm 4), .ref (mm 5), .int 0, .int 0, .int 0, .int 0, .int 0, .int 0, .int 0, .int 0, .int 0, .int (-1), .int 0, .ref (mm 6), .int 0, .ref (mm 7), .ref (mm 8), .ref (mm 9), .int 0, .ref (mm 10), .ref (mm 11), .int 0, .int 0, .ref (mm 12), .ref (mm 13), .int 0, .ref (mm 14), .ref (mm 15), .ref (mm 16)])), ((mm 14), .inl (k 0, 4, .inl f_32)), ((mm 15), .inl (k 0, 4, .inl (upd (fun _ => 0) (3 : Int32).toNatClampNeg z))), ((mm 16), .inl (k 1, 160, .inr (.inl (fun _ => 0))))] := hD
          generalize ef_33 : (upd (fun _ => 0) (3 : Int32).toNatClampNeg z) = f_33 at hP hD
          refine lv_iconst (v := 0) hx hb dX8_numbers_61 (by decide) ?_
          refine lv_istore (lv' := [(4, .int 0), (0, .ref (mm 0)), (1, .int a), (2, .int x), (3, .int z)]) hx hb dX8_numbers_62 hl (by decide) rfl (fun ls hl => ?_)
          refine W_loop (σ := Int32) (fun xx H locs ls => (0 ≤ xx.toInt ∧ xx.toInt ≤ z.toInt) ∧ va_P D vwCl [((mm 0), .inr (7, [.int 0, .ref (mm 1), .ref (mm 2), .ref (mm 3), .ref (mm 4), .ref (mm 5), .int 0, .int 0, .int 0, .int 0, .int 0, .int 0, .int 0, .int 0, .int 0, .int (-1), .int 0, .ref (mm 6), .int 0, .ref (mm 7), .ref (mm 8), .ref (mm 9), .int 0, .ref (mm 10), .ref (mm 11), .int 0, .int 0, .ref (mm 12), .ref (mm 13), .int 0, .ref (mm 14), .ref (mm 15), .ref (mm 16)])), ((mm 14), .inl (k 0, 4, .inl f_32)), ((mm 15), .inl (k 0, 4, .inl f_33)), ((mm 16), .inl (k 1, 160, .inr (.inl (fun _ => 0))))] H ∧ va_D A [((mm 0), .inr (7, [.int 0, .ref (mm 1), .ref (mm 2), .ref (mm 3), .ref (mm 4), .ref (mm 5), .int 0, .int 0, .int 0, .int 0, .int 0, .int 0, .int 0, .int 0, .int 0, .int (-1), .int 0, .ref (mm 6), .int 0, .ref (mm 7), .ref (mm 8), .ref (mm 9), .int 0, .ref (mm 10), .ref (mm 11), .int 0, .int 0, .ref (mm 12), .ref (mm 13), .int 0, .ref (mm 14), .ref (mm 15), .ref (mm 16)])), ((mm 14), .inl (k 0, 4, .inl f_32)), ((mm 15), .inl (k 0, 4, .inl f_33)), ((mm 16), .inl (k 1, 160, .inr (.inl (fun _ => 0))))] ∧ va_S A s.heap H locs ∧ lv_has ls 5 [(4, .int xx), (0, .ref (mm 0)), (1, .int a), (2, .int x), (3, .int z)]) (fun xx => (z.toInt - xx.toInt).toNat) ?_ (0) _ _ ls ⟨(show 0 ≤ (0 : Int32).toInt ∧ (0 : Int32).toInt ≤ z.toInt from ⟨by decide, by rw [show (0 : Int32).toInt = 0 from by decide]; omega⟩), hP.sub [0, 1, 2, 3] rfl, hD.sub [0, 1, 2, 3] (by decide) rfl, hS, lv_sub hl [0, 1, 2, 3, 4] rfl⟩
          intro xx H locs ls hI ih
          obtain ⟨i_34, rfl⟩ : ∃ z, z = xx := ⟨_, rfl⟩
          obtain ⟨h_35, hP, hD, hS, hl⟩ := hI
          have h_35 : 0 ≤ i_34.toInt ∧ i_34.toInt ≤ z.toInt := h_35
          obtain ⟨h_35a, h_35b⟩ := h_35
          have hP : va_P D vwCl [((mm 0), .inr (7, [.int 0, .ref (mm 1), .ref (mm 2), .ref (mm 3), .ref (mm 4), .ref (mm 5), .int 0, .int 0, .int 0, .int 0, .int 0, .int 0, .int 0, .int 0, .int 0, .int (-1), .int 0, .ref (mm 6), .int 0, .ref (mm 7), .ref (mm 8), .ref (mm 9), .int 0, .ref (mm 10), .ref (mm 11), .int 0, .int 0, .ref (mm 12), .ref (mm 13), .int 0, .ref (mm 14), .ref (mm 15), .ref (mm 16)])), ((mm 14), .inl (k 0, 4, .inl f_32)), ((mm 15), .inl (k 0, 4, .inl f_33)), ((mm 16), .inl (k 1, 160, .inr (.inl (fun _ => 0))))] H := hP
          have hD : va_D A [((mm 0), .inr (7, [.int 0, .ref (mm 1), .ref (mm 2), .ref (mm 3), .ref (mm 4), .ref (mm 5), .int 0, .int 0, .int 0, .int 0, .int 0, .int 0, .int 0, .int 0, .int 0, .int (-1), .int 0, .ref (mm 6), .int 0, .ref (mm 7), .ref (mm 8), .ref (mm 9), .int 0, .ref (mm 10), .ref (mm 11), .int 0, .int 0, .ref (mm 12), .ref (mm 13), .int 0, .ref (mm 14), .ref (mm 15), .ref (mm 16)])), ((mm 14), .inl (k 0, 4, .inl f_32)), ((mm 15), .inl (k 0, 4, .inl f_33)), ((mm 16), .inl (k 1, 160, .inr (.inl (fun _ => 0))))] := hD
          have hl : lv_has ls 5 [(4, .int i_34), (0, .ref (mm 0)), (1, .int a), (2, .int x), (3, .int z)] := hl
          refine lv_iload hx hb dX8_numbers_64 (lv_at hl 0 rfl) ?_
          refine lv_iload_n hx hb dX8_numbers_66 rfl (lv_at hl 4 rfl) ?_
          refine lv_icmp_ge (tgt := 89) hx hb dX8_numbers_67 (by decide) (fun c_36 => ?_) (fun c_36 => ?_)
          · have c_36 : z.toInt ≤ i_34.toInt := ti_le c_36
            refine lv_iconst (v := 0) hx hb dX8_numbers_89 (by decide) ?_
            have hP9 := hP.sub (ws' := []) [] rfl
            have hD9 := hD.sub (ws' := []) [] (by decide) rfl
            exact W.iret (v := 0) hx hb hr (fun t ht hW => ⟨⟨0, (), rfl, (by (repeat' split) <;> first | rfl | (exfalso; omega)), by rw [ht]; exact hP9, hD9⟩, hS.F ht⟩) hS.2.2 dX8_numbers_90
          · have c_36 : i_34.toInt < z.toInt := ti_nle c_36
            refine lv_aload_n hx hb dX8_numbers_70 rfl (lv_at hl 1 rfl) ?_
            refine va_get (D := D) (ci := 7) (v := .ref (mm 16)) (C := RX8) (T := TX8) (N := 33) hx hb hts inlX8 hown hK hP 0 rfl rfl 32 (by decide) (hts _ mw_107) (fun _ h9 => h9) rfl dX8_numbers_71 ?_
            refine lv_bipush (v := 40) hx hb dX8_numbers_74 (by decide) ?_
            refine lv_iload_n hx hb dX8_numbers_76 rfl (lv_at hl 2 rfl) ?_
            refine lv_ni (v := 3) (qc_10) ?_
            refine lv_imul hx hb dX8_numbers_77 ?_
            refine lv_ni (v := 120) (by decide) ?_
            refine lv_iload hx hb dX8_numbers_78 (lv_at hl 0 rfl) ?_
            refine lv_iadd hx hb dX8_numbers_80 ?_
            refine lv_topi (fun z_37 ez_37 => ?_)
            have tz_37 : z_37.toInt = 120 + i_34.toInt := by rw [ez_37]; exact ti_addcl (by decide) (by omega) (by omega)
            refine lv_lconst (v := 0) hx hb dX8_numbers_81 (by decide) ?_
            refine va_last hx hb hK hP hD hS 3 1 rfl rfl (vp_in_o (by omega) (by omega)) dX8_numbers_82 (fun H locs hP hD hS => ?_)
            have hP : va_P D vwCl [((mm 0), .inr (7, [.int 0, .ref (mm 1), .ref (mm 2), .ref (mm 3), .ref (mm 4), .ref (mm 5), .int 0, .int 0, .int 0, .int 0, .int 0, .int 0, .int 0, .int 0, .int 0, .int (-1), .int 0, .ref (mm 6), .int 0, .ref (mm 7), .ref (mm 8), .ref (mm 9), .int 0, .ref (mm 10), .ref (mm 11), .int 0, .int 0, .ref (mm 12), .ref (mm 13), .int 0, .ref (mm 14), .ref (mm 15), .ref (mm 16)])), ((mm 14), .inl (k 0, 4, .inl f_32)), ((mm 15), .inl (k 0, 4, .inl f_33)), ((mm 16), .inl (k 1, 160, .inr (.inl (vp_updL (fun _ => 0) z_37.toNatClampNeg 0))))] H := hP
            have hD : va_D A [((mm 0), .inr (7, [.int 0, .ref (mm 1), .ref (mm 2), .ref (mm 3), .ref (mm 4), .ref (mm 5), .int 0, .int 0, .int 0, .int 0, .int 0, .int 0, .int 0, .int 0, .int 0, .int (-1), .int 0, .ref (mm 6), .int 0, .ref (mm 7), .ref (mm 8), .ref (mm 9), .int 0, .ref (mm 10), .ref (mm 11), .int 0, .int 0, .ref (mm 12), .ref (mm 13), .int 0, .ref (mm 14), .ref (mm 15), .ref (mm 16)])), ((mm 14), .inl (k 0, 4, .inl f_32)), ((mm 15), .inl (k 0, 4, .inl f_33)), ((mm 16), .inl (k 1, 160, .inr (.inl (vp_updL (fun _ => 0) z_37.toNatClampNeg 0))))] := hD
            rw [updL0] at hP hD
            obtain ⟨z_38, ez_38⟩ : ∃ y : Int32, y = i_34 + 1 := ⟨_, rfl⟩
            have tz_38 : z_38.toInt = i_34.toInt + 1 := by rw [ez_38]; exact ti_addc (by decide) (by omega) (by omega)
            refine lv_iinc (v := z_38) (lv' := [(4, .int z_38), (0, .ref (mm 0)), (1, .int a), (2, .int x), (3, .int z)]) hx hb dX8_numbers_83 hl (k := 0) rfl (ez_38.symm) (by decide) rfl (fun ls hl => ?_)
            refine lv_goto (tgt := 64) hx hb dX8_numbers_86 (by decide) ?_
            exact ih (z_38) _ _ ls (by show (z.toInt - z_38.toInt).toNat < (z.toInt - i_34.toInt).toNat; omega) ⟨(show 0 ≤ z_38.toInt ∧ z_38.toInt ≤ z.toInt from ⟨by omega, by omega⟩), hP.sub [0, 1, 2, 3] rfl, hD.sub [0, 1, 2, 3] (by decide) rfl, hS, lv_sub hl [0, 1, 2, 3, 4] rfl⟩
      have hr_5 := hr_5.trans (if_neg hc_6)
      obtain rfl : r_5 = 0 := hr_5
      refine lv_if_ne (tgt := 47) hx hb dX8_numbers_41 (by decide) (fun c9 => absurd c9 (by decide)) (fun _ => ?_)
      refine lv_bipush (v := (-3)) hx hb dX8_numbers_44 (by decide) ?_
      have hP9 := hP.sub (ws' := []) [] rfl
      have hD9 := hD.sub (ws' := []) [] (by decide) rfl
      exact W.iret (v := (-3)) hx hb hr (fun t ht hW => ⟨⟨(-3), (), rfl, (by (repeat' split) <;> first | rfl | (exfalso; omega)), by rw [ht]; exact hP9, hD9⟩, hS.F ht⟩) hS.2.2 dX8_numbers_46
    have hr_3 := hr_3.trans (if_neg hc_4)
    obtain rfl : r_3 = 0 := hr_3
    refine lv_if_ne (tgt := 32) hx hb dX8_numbers_26 (by decide) (fun c9 => absurd c9 (by decide)) (fun _ => ?_)
    refine lv_bipush (v := (-2)) hx hb dX8_numbers_29 (by decide) ?_
    have hP9 := hP.sub (ws' := []) [] rfl
    have hD9 := hD.sub (ws' := []) [] (by decide) rfl
    exact W.iret (v := (-2)) hx hb hr (fun t ht hW => ⟨⟨(-2), (), rfl, (by (repeat' split) <;> first | rfl | (exfalso; omega)), by rw [ht]; exact hP9, hD9⟩, hS.F ht⟩) hS.2.2 dX8_numbers_31
  have hr_1 := hr_1.trans (if_neg hc_2)
  obtain rfl : r_1 = 0 := hr_1
  refine lv_if_eq (tgt := 29) hx hb dX8_numbers_14 (by decide) (fun _ => ?_) (fun c9 => absurd c9 (by decide))
  refine lv_bipush (v := (-2)) hx hb dX8_numbers_29 (by decide) ?_
  have hP9 := hP.sub (ws' := []) [] rfl
  have hD9 := hD.sub (ws' := []) [] (by decide) rfl
  exact W.iret (v := (-2)) hx hb hr (fun t ht hW => ⟨⟨(-2), (), rfl, (by (repeat' split) <;> first | rfl | (exfalso; omega)), by rw [ht]; exact hP9, hD9⟩, hS.F ht⟩) hS.2.2 dX8_numbers_31
set_option maxHeartbeats 4000000 in
set_option maxRecDepth 100000 in
theorem c_M_write (l : Launch) (D : va_G) (k : Nat → ClassId) (mm : Nat → Nat) (rs : Nat → Int32) (a : Int32) (x : Int32) (lv : Int64) (sz : Nat) (hs0 : rs 0 = -1) (hs1 : rs 1 = -1) (hs2 : rs 2 = -1) (hs3 : rs 3 = -1) : Met l yX8_write (Cond.code yX8_write cX8_write 5 (some .long) :: wsL_law) ({ frames := 1, cells := 0, slots := 0, locals := 60 } : Room) (va_Pc [.ref (mm 0), .int a, .int x, .long lv] (pu D k sz [((mm 0), .inr (7, [.int 0, .ref (mm 1), .ref (mm 2), .ref (mm 3), .ref (mm 4), .ref (mm 5), .int 0, .int 0, .int 0, .int 0, .int 0, .int 0, .int 0, .int 0, .int 0, .int (-1), .int 0, .ref (mm 6), .int 0, .ref (mm 7), .ref (mm 8), .ref (mm 9), .int 0, .ref (mm 10), .ref (mm 11), .int 0, .int 0, .ref (mm 12), .ref (mm 13), .int 0, .ref (mm 14), .ref (mm 15), .ref (mm 16)])), ((mm 14), .inl (k 0, 4, .inl rs))])) (va_Ql (fun rr (uu : Unit) => rr = if 0 ≤ a.toInt ∧ a.toInt ≤ 3 then (-6) else (-2)) (qu D (va_A [((mm 0), .inr (7, [.int 0, .ref (mm 1), .ref (mm 2), .ref (mm 3), .ref (mm 4), .ref (mm 5), .int 0, .int 0, .int 0, .int 0, .int 0, .int 0, .int 0, .int 0, .int 0, .int (-1), .int 0, .ref (mm 6), .int 0, .ref (mm 7), .ref (mm 8), .ref (mm 9), .int 0, .ref (mm 10), .ref (mm 11), .int 0, .int 0, .ref (mm 12), .ref (mm 13), .int 0, .ref (mm 14), .ref (mm 15), .ref (mm 16)])), ((mm 14), .inl (k 0, 4, .inl rs))] sz) (fun uu : Unit => [])) (va_A [((mm 0), .inr (7, [.int 0, .ref (mm 1), .ref (mm 2), .ref (mm 3), .ref (mm 4), .ref (mm 5), .int 0, .int 0, .int 0, .int 0, .int 0, .int 0, .int 0, .int 0, .int 0, .int (-1), .int 0, .ref (mm 6), .int 0, .ref (mm 7), .ref (mm 8), .ref (mm 9), .int 0, .ref (mm 10), .ref (mm 11), .int 0, .int 0, .ref (mm 12), .ref (mm 13), .int 0, .ref (mm 14), .ref (mm 15), .ref (mm 16)])), ((mm 14), .inl (k 0, 4, .inl rs))] sz)) 0 0 (va_A [((mm 0), .inr (7, [.int 0, .ref (mm 1), .ref (mm 2), .ref (mm 3), .ref (mm 4), .ref (mm 5), .int 0, .int 0, .int 0, .int 0, .int 0, .int 0, .int 0, .int 0, .int 0, .int (-1), .int 0, .ref (mm 6), .int 0, .ref (mm 7), .ref (mm 8), .ref (mm 9), .int 0, .ref (mm 10), .ref (mm 11), .int 0, .int 0, .ref (mm 12), .ref (mm 13), .int 0, .ref (mm 14), .ref (mm 15), .ref (mm 16)])), ((mm 14), .inl (k 0, 4, .inl rs))] sz) := by
  refine Met.ofW (cc := cX8_write) (maxL := 5) (ret := (some .long)) (by decide) rfl ?_
  intro p e s m args below meth c s₁ B hml hv
  obtain ⟨rfl, hsz, hP, hK, hD0⟩ := hv
  have hx := B.exec
  have hb := B.bytes
  have hr := B.returns
  have hts : ∀ w ∈ wsL_law, w.before _ s = true := fun w h => atoms_spec (ws := Cond.code yX8_write cX8_write 5 (some .long) :: wsL_law) B.pre w (List.mem_cons_of_mem _ h)
  have hown : s.vm.findClass RX8 = some m.cls := findClass_of_methodNamed B.named
  have hlocks := B.notSynchronized
  subst hsz
  have hD := hD0.self (sz := s.heap.size)
  generalize hAe : va_A [((mm 0), .inr (7, [.int 0, .ref (mm 1), .ref (mm 2), .ref (mm 3), .ref (mm 4), .ref (mm 5), .int 0, .int 0, .int 0, .int 0, .int 0, .int 0, .int 0, .int 0, .int 0, .int (-1), .int 0, .ref (mm 6), .int 0, .ref (mm 7), .ref (mm 8), .ref (mm 9), .int 0, .ref (mm 10), .ref (mm 11), .int 0, .int 0, .ref (mm 12), .ref (mm 13), .int 0, .ref (mm 14), .ref (mm 15), .ref (mm 16)])), ((mm 14), .inl (k 0, 4, .inl rs))] s.heap.size = A at hD ⊢
  have hA : ∀ q : Nat, s.heap.size ≤ q → A q := fun q h => by rw [← hAe]; exact Or.inr h
  have hS : va_S A s.heap s.heap [] := va_S.rf
  have hP : va_P D vwCl [((mm 0), .inr (7, [.int 0, .ref (mm 1), .ref (mm 2), .ref (mm 3), .ref (mm 4), .ref (mm 5), .int 0, .int 0, .int 0, .int 0, .int 0, .int 0, .int 0, .int 0, .int 0, .int (-1), .int 0, .ref (mm 6), .int 0, .ref (mm 7), .ref (mm 8), .ref (mm 9), .int 0, .ref (mm 10), .ref (mm 11), .int 0, .int 0, .ref (mm 12), .ref (mm 13), .int 0, .ref (mm 14), .ref (mm 15), .ref (mm 16)])), ((mm 14), .inl (k 0, 4, .inl rs))] s.heap := hP
  have hl := lv_entry ([.ref (mm 0), .int a, .int x, .long lv]) (n := 5) (Nat.le_of_ble_eq_true rfl)
  rw [lg_entry_eq]
  generalize (lg_sl ([.ref (mm 0), .int a, .int x, .long lv]) ++ List.replicate (5 - (lg_sl ([.ref (mm 0), .int a, .int x, .long lv])).length) Slot.unset).toArray = ls at hl ⊢
  have hl : lv_has ls 5 [(0, .ref (mm 0)), (1, .int a), (2, .int x), (3, .long lv)] := hl
  refine lv_aload_n hx hb dX8_write_0 rfl (lv_at hl 0 rfl) ?_
  refine lv_iconst (v := 0) hx hb dX8_write_1 (by decide) ?_
  refine va_put (D := D) (ci := 7) (v := .int 0) (ty := .int) (C := RX8) (T := TX8) (N := 33) hx hb hts inlX8 tyX8 tyX8_ok nmX8 hown hK hP hD hS 0 rfl rfl 0 (by decide) (hts _ mw_125) (fun _ h9 => h9) rfl (by decide +kernel) rfl rfl (Nat.le_of_ble_eq_true rfl) dX8_write_2 (fun H locs hP hD hS => ?_)
  have hP : va_P D vwCl [((mm 0), .inr (7, [.int 0, .ref (mm 1), .ref (mm 2), .ref (mm 3), .ref (mm 4), .ref (mm 5), .int 0, .int 0, .int 0, .int 0, .int 0, .int 0, .int 0, .int 0, .int 0, .int (-1), .int 0, .ref (mm 6), .int 0, .ref (mm 7), .ref (mm 8), .ref (mm 9), .int 0, .ref (mm 10), .ref (mm 11), .int 0, .int 0, .ref (mm 12), .ref (mm 13), .int 0, .ref (mm 14), .ref (mm 15), .ref (mm 16)])), ((mm 14), .inl (k 0, 4, .inl rs))] H := hP
  have hD : va_D A [((mm 0), .inr (7, [.int 0, .ref (mm 1), .ref (mm 2), .ref (mm 3), .ref (mm 4), .ref (mm 5), .int 0, .int 0, .int 0, .int 0, .int 0, .int 0, .int 0, .int 0, .int 0, .int (-1), .int 0, .ref (mm 6), .int 0, .ref (mm 7), .ref (mm 8), .ref (mm 9), .int 0, .ref (mm 10), .ref (mm 11), .int 0, .int 0, .ref (mm 12), .ref (mm 13), .int 0, .ref (mm 14), .ref (mm 15), .ref (mm 16)])), ((mm 14), .inl (k 0, 4, .inl rs))] := hD
  refine lv_iload_n hx hb dX8_write_5 rfl (lv_at hl 1 rfl) ?_
  refine lv_i2l (v := a.toInt64) hx hb dX8_write_6 rfl ?_
  refine lv_lconst (v := 0) hx hb dX8_write_7 (by decide) ?_
  refine lv_ldc2 (own := RX8) (index := 220) (v := 3) hx hb hown (hts _ mw_592) dX8_write_8 ?_
  refine kS_i (As := [.long a.toInt64, .long 0, .long 3]) (rest := []) (cs := []) ⟨hx, hb, hml, hown, hts⟩ (c_M_within l D k a 0 3) (gS mw_294 mw_295 mw_5 mw_296) hd_yX8_within rfl rfl ⟨Nat.le_of_ble_eq_true rfl, Nat.le_of_ble_eq_true rfl⟩ hK (hP.sub (ws' := []) [] rfl) rfl hl.1 rfl (Nat.le_of_ble_eq_true rfl) dX8_write_11 ⟨Nat.le_of_ble_eq_true rfl, Nat.le_of_ble_eq_true rfl⟩ (fun r_1 hr_1 => ?_)
  by_cases hc_2 : 0 ≤ a.toInt ∧ a.toInt ≤ 3
  · obtain rfl : r_1 = 1 := hr_1.trans (if_pos hc_2)
    refine lv_if_ne (tgt := 21) hx hb dX8_write_14 (by decide) (fun _ => ?_) (fun c9 => absurd c9 (by decide))
    refine lv_aload_n hx hb dX8_write_21 rfl (lv_at hl 0 rfl) ?_
    refine va_get (D := D) (ci := 7) (v := .ref (mm 14)) (C := RX8) (T := TX8) (N := 33) hx hb hts inlX8 hown hK hP 0 rfl rfl 30 (by decide) (hts _ mw_105) (fun _ h9 => h9) rfl dX8_write_22 ?_
    refine lv_iload_n hx hb dX8_write_25 rfl (lv_at hl 1 rfl) ?_
    rcases (show a.toInt = 0 ∨ a.toInt = 1 ∨ a.toInt = 2 ∨ a.toInt = 3 from by omega) with c_3 | c_4 | c_5 | c_6
    · have qc_3 : a = 0 := ti_of (show a.toInt = 0 from c_3)
      refine lv_ni (v := 0) qc_3 ?_
      refine va_iald hx hb hK hP 1 0 rfl rfl (vp_in_c (by decide)) dX8_write_26 ?_
      refine lv_ni (v := (-1)) (hs0) ?_
      refine lv_iconst (v := (-1)) hx hb dX8_write_27 (by decide) ?_
      refine lv_icmp_ne (tgt := 35) hx hb dX8_write_28 (by decide) (fun c9 => absurd c9 (by decide)) (fun _ => ?_)
      refine lv_ldc2 (own := RX8) (index := 325) (v := (-6)) hx hb hown (hts _ mw_1154) dX8_write_31 ?_
      have hP9 := hP.sub (ws' := []) [] rfl
      have hD9 := hD.sub (ws' := []) [] (by decide) rfl
      exact W.lret (v := (-6)) hx hb hr (fun t ht hW => ⟨⟨(-6), (), rfl, (by (repeat' split) <;> first | rfl | (exfalso; omega)), by rw [ht]; exact hP9, hD9⟩, hS.F ht⟩) hS.2.2 dX8_write_34
    · have qc_4 : a = 1 := ti_of (show a.toInt = 1 from c_4)
      refine lv_ni (v := 1) qc_4 ?_
      refine va_iald hx hb hK hP 1 0 rfl rfl (vp_in_c (by decide)) dX8_write_26 ?_
      refine lv_ni (v := (-1)) (hs1) ?_
      refine lv_iconst (v := (-1)) hx hb dX8_write_27 (by decide) ?_
      refine lv_icmp_ne (tgt := 35) hx hb dX8_write_28 (by decide) (fun c9 => absurd c9 (by decide)) (fun _ => ?_)
      refine lv_ldc2 (own := RX8) (index := 325) (v := (-6)) hx hb hown (hts _ mw_1154) dX8_write_31 ?_
      have hP9 := hP.sub (ws' := []) [] rfl
      have hD9 := hD.sub (ws' := []) [] (by decide) rfl
      exact W.lret (v := (-6)) hx hb hr (fun t ht hW => ⟨⟨(-6), (), rfl, (by (repeat' split) <;> first | rfl | (exfalso; omega)), by rw [ht]; exact hP9, hD9⟩, hS.F ht⟩) hS.2.2 dX8_write_34
    · have qc_5 : a = 2 := ti_of (show a.toInt = 2 from c_5)
      refine lv_ni (v := 2) qc_5 ?_
      refine va_iald hx hb hK hP 1 0 rfl rfl (vp_in_c (by decide)) dX8_write_26 ?_
      refine lv_ni (v := (-1)) (hs2) ?_
      refine lv_iconst (v := (-1)) hx hb dX8_write_27 (by decide) ?_
      refine lv_icmp_ne (tgt := 35) hx hb dX8_write_28 (by decide) (fun c9 => absurd c9 (by decide)) (fun _ => ?_)
      refine lv_ldc2 (own := RX8) (index := 325) (v := (-6)) hx hb hown (hts _ mw_1154) dX8_write_31 ?_
      have hP9 := hP.sub (ws' := []) [] rfl
      have hD9 := hD.sub (ws' := []) [] (by decide) rfl
      exact W.lret (v := (-6)) hx hb hr (fun t ht hW => ⟨⟨(-6), (), rfl, (by (repeat' split) <;> first | rfl | (exfalso; omega)), by rw [ht]; exact hP9, hD9⟩, hS.F ht⟩) hS.2.2 dX8_write_34
    · have qc_6 : a = 3 := ti_of (show a.toInt = 3 from c_6)
      refine lv_ni (v := 3) qc_6 ?_
      refine va_iald hx hb hK hP 1 0 rfl rfl (vp_in_c (by decide)) dX8_write_26 ?_
      refine lv_ni (v := (-1)) (hs3) ?_
      refine lv_iconst (v := (-1)) hx hb dX8_write_27 (by decide) ?_
      refine lv_icmp_ne (tgt := 35) hx hb dX8_write_28 (by decide) (fun c9 => absurd c9 (by decide)) (fun _ => ?_)
      refine lv_ldc2 (own := RX8) (index := 325) (v := (-6)) hx hb hown (hts _ mw_1154) dX8_write_31 ?_
      have hP9 := hP.sub (ws' := []) [] rfl
      have hD9 := hD.sub (ws' := []) [] (by decide) rfl
      exact W.lret (v := (-6)) hx hb hr (fun t ht hW => ⟨⟨(-6), (), rfl, (by (repeat' split) <;> first | rfl | (exfalso; omega)), by rw [ht]; exact hP9, hD9⟩, hS.F ht⟩) hS.2.2 dX8_write_34
  have hr_1 := hr_1.trans (if_neg hc_2)
  obtain rfl : r_1 = 0 := hr_1
  refine lv_if_ne (tgt := 21) hx hb dX8_write_14 (by decide) (fun c9 => absurd c9 (by decide)) (fun _ => ?_)
  refine lv_ldc2 (own := RX8) (index := 284) (v := (-2)) hx hb hown (hts _ mw_941) dX8_write_17 ?_
  have hP9 := hP.sub (ws' := []) [] rfl
  have hD9 := hD.sub (ws' := []) [] (by decide) rfl
  exact W.lret (v := (-2)) hx hb hr (fun t ht hW => ⟨⟨(-2), (), rfl, (by (repeat' split) <;> first | rfl | (exfalso; omega)), by rw [ht]; exact hP9, hD9⟩, hS.F ht⟩) hS.2.2 dX8_write_20
set_option maxHeartbeats 4000000 in
set_option maxRecDepth 100000 in
theorem c_M_image (l : Launch) (D : va_G) (k : Nat → ClassId) (mm : Nat → Nat) (f : Nat → Int32) (a : Int32) (sz : Nat) : Met l yX8_image (Cond.code yX8_image cX8_image 3 (some .int) :: wsL_law) ({ frames := 1, cells := 0, slots := 0, locals := 60 } : Room) (va_Pc [.ref (mm 0), .int a] (pu D k sz [((mm 0), .inr (7, [.int 0, .ref (mm 1), .ref (mm 2), .ref (mm 3), .ref (mm 4), .ref (mm 5), .int 0, .int 0, .int 0, .int 0, .int 0, .int 0, .int 0, .int 0, .int 0, .int (-1), .int 0, .ref (mm 6), .int 0, .ref (mm 7), .ref (mm 8), .ref (mm 9), .int 0, .ref (mm 10), .ref (mm 11), .int 0, .int 0, .ref (mm 12), .ref (mm 13), .int 0, .ref (mm 14), .ref (mm 15), .ref (mm 16)])), ((mm 1), .inl (k 0, 1227, .inl f)), ((mm 3), .inl (k 3, 2, .inl (fun _ => 0)))])) (va_Qi (fun rr (uu : Unit) => rr = if 0 ≤ a.toInt ∧ a.toInt ≤ 1 then 0 else (-2)) (qu D (va_A [((mm 0), .inr (7, [.int 0, .ref (mm 1), .ref (mm 2), .ref (mm 3), .ref (mm 4), .ref (mm 5), .int 0, .int 0, .int 0, .int 0, .int 0, .int 0, .int 0, .int 0, .int 0, .int (-1), .int 0, .ref (mm 6), .int 0, .ref (mm 7), .ref (mm 8), .ref (mm 9), .int 0, .ref (mm 10), .ref (mm 11), .int 0, .int 0, .ref (mm 12), .ref (mm 13), .int 0, .ref (mm 14), .ref (mm 15), .ref (mm 16)])), ((mm 1), .inl (k 0, 1227, .inl f)), ((mm 3), .inl (k 3, 2, .inl (fun _ => 0)))] sz) (fun uu : Unit => [])) (va_A [((mm 0), .inr (7, [.int 0, .ref (mm 1), .ref (mm 2), .ref (mm 3), .ref (mm 4), .ref (mm 5), .int 0, .int 0, .int 0, .int 0, .int 0, .int 0, .int 0, .int 0, .int 0, .int (-1), .int 0, .ref (mm 6), .int 0, .ref (mm 7), .ref (mm 8), .ref (mm 9), .int 0, .ref (mm 10), .ref (mm 11), .int 0, .int 0, .ref (mm 12), .ref (mm 13), .int 0, .ref (mm 14), .ref (mm 15), .ref (mm 16)])), ((mm 1), .inl (k 0, 1227, .inl f)), ((mm 3), .inl (k 3, 2, .inl (fun _ => 0)))] sz)) 0 0 (va_A [((mm 0), .inr (7, [.int 0, .ref (mm 1), .ref (mm 2), .ref (mm 3), .ref (mm 4), .ref (mm 5), .int 0, .int 0, .int 0, .int 0, .int 0, .int 0, .int 0, .int 0, .int 0, .int (-1), .int 0, .ref (mm 6), .int 0, .ref (mm 7), .ref (mm 8), .ref (mm 9), .int 0, .ref (mm 10), .ref (mm 11), .int 0, .int 0, .ref (mm 12), .ref (mm 13), .int 0, .ref (mm 14), .ref (mm 15), .ref (mm 16)])), ((mm 1), .inl (k 0, 1227, .inl f)), ((mm 3), .inl (k 3, 2, .inl (fun _ => 0)))] sz) := by
  refine Met.ofW (cc := cX8_image) (maxL := 3) (ret := (some .int)) (by decide) rfl ?_
  intro p e s m args below meth c s₁ B hml hv
  obtain ⟨rfl, hsz, hP, hK, hD0⟩ := hv
  have hx := B.exec
  have hb := B.bytes
  have hr := B.returns
  have hts : ∀ w ∈ wsL_law, w.before _ s = true := fun w h => atoms_spec (ws := Cond.code yX8_image cX8_image 3 (some .int) :: wsL_law) B.pre w (List.mem_cons_of_mem _ h)
  have hown : s.vm.findClass RX8 = some m.cls := findClass_of_methodNamed B.named
  have hlocks := B.notSynchronized
  subst hsz
  have hD := hD0.self (sz := s.heap.size)
  generalize hAe : va_A [((mm 0), .inr (7, [.int 0, .ref (mm 1), .ref (mm 2), .ref (mm 3), .ref (mm 4), .ref (mm 5), .int 0, .int 0, .int 0, .int 0, .int 0, .int 0, .int 0, .int 0, .int 0, .int (-1), .int 0, .ref (mm 6), .int 0, .ref (mm 7), .ref (mm 8), .ref (mm 9), .int 0, .ref (mm 10), .ref (mm 11), .int 0, .int 0, .ref (mm 12), .ref (mm 13), .int 0, .ref (mm 14), .ref (mm 15), .ref (mm 16)])), ((mm 1), .inl (k 0, 1227, .inl f)), ((mm 3), .inl (k 3, 2, .inl (fun _ => 0)))] s.heap.size = A at hD ⊢
  have hA : ∀ q : Nat, s.heap.size ≤ q → A q := fun q h => by rw [← hAe]; exact Or.inr h
  have hS : va_S A s.heap s.heap [] := va_S.rf
  have hP : va_P D vwCl [((mm 0), .inr (7, [.int 0, .ref (mm 1), .ref (mm 2), .ref (mm 3), .ref (mm 4), .ref (mm 5), .int 0, .int 0, .int 0, .int 0, .int 0, .int 0, .int 0, .int 0, .int 0, .int (-1), .int 0, .ref (mm 6), .int 0, .ref (mm 7), .ref (mm 8), .ref (mm 9), .int 0, .ref (mm 10), .ref (mm 11), .int 0, .int 0, .ref (mm 12), .ref (mm 13), .int 0, .ref (mm 14), .ref (mm 15), .ref (mm 16)])), ((mm 1), .inl (k 0, 1227, .inl f)), ((mm 3), .inl (k 3, 2, .inl (fun _ => 0)))] s.heap := hP
  have hl := lv_entry ([.ref (mm 0), .int a]) (n := 3) (Nat.le_of_ble_eq_true rfl)
  rw [lg_entry_eq]
  generalize (lg_sl ([.ref (mm 0), .int a]) ++ List.replicate (3 - (lg_sl ([.ref (mm 0), .int a])).length) Slot.unset).toArray = ls at hl ⊢
  have hl : lv_has ls 3 [(0, .ref (mm 0)), (1, .int a)] := hl
  refine lv_aload_n hx hb dX8_image_0 rfl (lv_at hl 0 rfl) ?_
  refine lv_iconst (v := 0) hx hb dX8_image_1 (by decide) ?_
  refine va_put (D := D) (ci := 7) (v := .int 0) (ty := .int) (C := RX8) (T := TX8) (N := 33) hx hb hts inlX8 tyX8 tyX8_ok nmX8 hown hK hP hD hS 0 rfl rfl 0 (by decide) (hts _ mw_125) (fun _ h9 => h9) rfl (by decide +kernel) rfl rfl (Nat.le_of_ble_eq_true rfl) dX8_image_2 (fun H locs hP hD hS => ?_)
  have hP : va_P D vwCl [((mm 0), .inr (7, [.int 0, .ref (mm 1), .ref (mm 2), .ref (mm 3), .ref (mm 4), .ref (mm 5), .int 0, .int 0, .int 0, .int 0, .int 0, .int 0, .int 0, .int 0, .int 0, .int (-1), .int 0, .ref (mm 6), .int 0, .ref (mm 7), .ref (mm 8), .ref (mm 9), .int 0, .ref (mm 10), .ref (mm 11), .int 0, .int 0, .ref (mm 12), .ref (mm 13), .int 0, .ref (mm 14), .ref (mm 15), .ref (mm 16)])), ((mm 1), .inl (k 0, 1227, .inl f)), ((mm 3), .inl (k 3, 2, .inl (fun _ => 0)))] H := hP
  have hD : va_D A [((mm 0), .inr (7, [.int 0, .ref (mm 1), .ref (mm 2), .ref (mm 3), .ref (mm 4), .ref (mm 5), .int 0, .int 0, .int 0, .int 0, .int 0, .int 0, .int 0, .int 0, .int 0, .int (-1), .int 0, .ref (mm 6), .int 0, .ref (mm 7), .ref (mm 8), .ref (mm 9), .int 0, .ref (mm 10), .ref (mm 11), .int 0, .int 0, .ref (mm 12), .ref (mm 13), .int 0, .ref (mm 14), .ref (mm 15), .ref (mm 16)])), ((mm 1), .inl (k 0, 1227, .inl f)), ((mm 3), .inl (k 3, 2, .inl (fun _ => 0)))] := hD
  refine lv_iload_n hx hb dX8_image_5 rfl (lv_at hl 1 rfl) ?_
  refine lv_i2l (v := a.toInt64) hx hb dX8_image_6 rfl ?_
  refine lv_lconst (v := 0) hx hb dX8_image_7 (by decide) ?_
  refine lv_lconst (v := 1) hx hb dX8_image_8 (by decide) ?_
  refine kS_i (As := [.long a.toInt64, .long 0, .long 1]) (rest := []) (cs := []) ⟨hx, hb, hml, hown, hts⟩ (c_M_within l D k a 0 1) (gS mw_294 mw_295 mw_5 mw_296) hd_yX8_within rfl rfl ⟨Nat.le_of_ble_eq_true rfl, Nat.le_of_ble_eq_true rfl⟩ hK (hP.sub (ws' := []) [] rfl) rfl hl.1 rfl (Nat.le_of_ble_eq_true rfl) dX8_image_9 ⟨Nat.le_of_ble_eq_true rfl, Nat.le_of_ble_eq_true rfl⟩ (fun r_1 hr_1 => ?_)
  by_cases hc_2 : 0 ≤ a.toInt ∧ a.toInt ≤ 1
  · obtain rfl : r_1 = 1 := hr_1.trans (if_pos hc_2)
    refine lv_if_ne (tgt := 18) hx hb dX8_image_12 (by decide) (fun _ => ?_) (fun c9 => absurd c9 (by decide))
    rcases (show a.toInt = 0 ∨ a.toInt = 1 from by omega) with c_3 | c_4
    · have qc_3 : a = 0 := ti_of (show a.toInt = 0 from c_3)
      refine lv_iconst (v := 0) hx hb dX8_image_18 (by decide) ?_
      refine lv_istore_n (lv' := [(2, .int 0), (0, .ref (mm 0)), (1, .int a)]) hx hb dX8_image_19 rfl hl (by decide) rfl (fun ls hl => ?_)
      refine W_loop (σ := Int32 × (Nat → Int32)) (fun xx H locs ls => (0 ≤ xx.1.toInt ∧ xx.1.toInt ≤ 409) ∧ va_P D vwCl [((mm 0), .inr (7, [.int 0, .ref (mm 1), .ref (mm 2), .ref (mm 3), .ref (mm 4), .ref (mm 5), .int 0, .int 0, .int 0, .int 0, .int 0, .int 0, .int 0, .int 0, .int 0, .int (-1), .int 0, .ref (mm 6), .int 0, .ref (mm 7), .ref (mm 8), .ref (mm 9), .int 0, .ref (mm 10), .ref (mm 11), .int 0, .int 0, .ref (mm 12), .ref (mm 13), .int 0, .ref (mm 14), .ref (mm 15), .ref (mm 16)])), ((mm 1), .inl (k 0, 1227, .inl xx.2)), ((mm 3), .inl (k 3, 2, .inl (fun _ => 0)))] H ∧ va_D A [((mm 0), .inr (7, [.int 0, .ref (mm 1), .ref (mm 2), .ref (mm 3), .ref (mm 4), .ref (mm 5), .int 0, .int 0, .int 0, .int 0, .int 0, .int 0, .int 0, .int 0, .int 0, .int (-1), .int 0, .ref (mm 6), .int 0, .ref (mm 7), .ref (mm 8), .ref (mm 9), .int 0, .ref (mm 10), .ref (mm 11), .int 0, .int 0, .ref (mm 12), .ref (mm 13), .int 0, .ref (mm 14), .ref (mm 15), .ref (mm 16)])), ((mm 1), .inl (k 0, 1227, .inl xx.2)), ((mm 3), .inl (k 3, 2, .inl (fun _ => 0)))] ∧ va_S A s.heap H locs ∧ lv_has ls 3 [(2, .int xx.1), (0, .ref (mm 0)), (1, .int a)]) (fun xx => (409 - xx.1.toInt).toNat) ?_ (0, f) _ _ ls ⟨(show 0 ≤ (0 : Int32).toInt ∧ (0 : Int32).toInt ≤ 409 from ⟨by decide, by decide⟩), hP.sub [0, 1, 2] rfl, hD.sub [0, 1, 2] (by decide) rfl, hS, lv_sub hl [0, 1, 2] rfl⟩
      intro xx H locs ls hI ih
      obtain ⟨i_5, f_6⟩ := xx
      obtain ⟨h_7, hP, hD, hS, hl⟩ := hI
      have h_7 : 0 ≤ i_5.toInt ∧ i_5.toInt ≤ 409 := h_7
      obtain ⟨h_7a, h_7b⟩ := h_7
      have hP : va_P D vwCl [((mm 0), .inr (7, [.int 0, .ref (mm 1), .ref (mm 2), .ref (mm 3), .ref (mm 4), .ref (mm 5), .int 0, .int 0, .int 0, .int 0, .int 0, .int 0, .int 0, .int 0, .int 0, .int (-1), .int 0, .ref (mm 6), .int 0, .ref (mm 7), .ref (mm 8), .ref (mm 9), .int 0, .ref (mm 10), .ref (mm 11), .int 0, .int 0, .ref (mm 12), .ref (mm 13), .int 0, .ref (mm 14), .ref (mm 15), .ref (mm 16)])), ((mm 1), .inl (k 0, 1227, .inl f_6)), ((mm 3), .inl (k 3, 2, .inl (fun _ => 0)))] H := hP
      have hD : va_D A [((mm 0), .inr (7, [.int 0, .ref (mm 1), .ref (mm 2), .ref (mm 3), .ref (mm 4), .ref (mm 5), .int 0, .int 0, .int 0, .int 0, .int 0, .int 0, .int 0, .int 0, .int 0, .int (-1), .int 0, .ref (mm 6), .int 0, .ref (mm 7), .ref (mm 8), .ref (mm 9), .int 0, .ref (mm 10), .ref (mm 11), .int 0, .int 0, .ref (mm 12), .ref (mm 13), .int 0, .ref (mm 14), .ref (mm 15), .ref (mm 16)])), ((mm 1), .inl (k 0, 1227, .inl f_6)), ((mm 3), .inl (k 3, 2, .inl (fun _ => 0)))] := hD
      have hl : lv_has ls 3 [(2, .int i_5), (0, .ref (mm 0)), (1, .int a)] := hl
      refine lv_iload_n hx hb dX8_image_20 rfl (lv_at hl 0 rfl) ?_
      refine lv_sipush (v := 409) hx hb dX8_image_21 (by decide) ?_
      refine lv_icmp_ge (tgt := 53) hx hb dX8_image_24 (by decide) (fun c_8 => ?_) (fun c_8 => ?_)
      · have c_8 : 409 ≤ i_5.toInt := ti_le c_8
        have qc_8 : i_5 = 409 := ti_of (show i_5.toInt = 409 from by omega)
        refine lv_aload_n hx hb dX8_image_53 rfl (lv_at hl 1 rfl) ?_
        refine va_get (D := D) (ci := 7) (v := .ref (mm 3)) (C := RX8) (T := TX8) (N := 33) hx hb hts inlX8 hown hK hP 0 rfl rfl 3 (by decide) (hts _ mw_93) (fun _ h9 => h9) rfl dX8_image_54 ?_
        refine lv_iload_n hx hb dX8_image_57 rfl (lv_at hl 2 rfl) ?_
        refine lv_ni (v := 0) (qc_3) ?_
        refine lv_iconst (v := 1) hx hb dX8_image_58 (by decide) ?_
        refine va_zast hx hb hK hP hD hS 2 3 rfl rfl (vp_in_c (by decide)) dX8_image_59 (fun H locs hP hD hS => ?_)
        have hP : va_P D vwCl [((mm 0), .inr (7, [.int 0, .ref (mm 1), .ref (mm 2), .ref (mm 3), .ref (mm 4), .ref (mm 5), .int 0, .int 0, .int 0, .int 0, .int 0, .int 0, .int 0, .int 0, .int 0, .int (-1), .int 0, .ref (mm 6), .int 0, .ref (mm 7), .ref (mm 8), .ref (mm 9), .int 0, .ref (mm 10), .ref (mm 11), .int 0, .int 0, .ref (mm 12), .ref (mm 13), .int 0, .ref (mm 14), .ref (mm 15), .ref (mm 16)])), ((mm 1), .inl (k 0, 1227, .inl f_6)), ((mm 3), .inl (k 3, 2, .inl (upd (fun _ => 0) (0 : Int32).toNatClampNeg (vp_nar .boolean 1))))] H := hP
        have hD : va_D A [((mm 0), .inr (7, [.int 0, .ref (mm 1), .ref (mm 2), .ref (mm 3), .ref (mm 4), .ref (mm 5), .int 0, .int 0, .int 0, .int 0, .int 0, .int 0, .int 0, .int 0, .int 0, .int (-1), .int 0, .ref (mm 6), .int 0, .ref (mm 7), .ref (mm 8), .ref (mm 9), .int 0, .ref (mm 10), .ref (mm 11), .int 0, .int 0, .ref (mm 12), .ref (mm 13), .int 0, .ref (mm 14), .ref (mm 15), .ref (mm 16)])), ((mm 1), .inl (k 0, 1227, .inl f_6)), ((mm 3), .inl (k 3, 2, .inl (upd (fun _ => 0) (0 : Int32).toNatClampNeg (vp_nar .boolean 1))))] := hD
        generalize ef_9 : (upd (fun _ => 0) (0 : Int32).toNatClampNeg (vp_nar .boolean 1)) = f_9 at hP hD
        refine lv_iconst (v := 0) hx hb dX8_image_60 (by decide) ?_
        have hP9 := hP.sub (ws' := []) [] rfl
        have hD9 := hD.sub (ws' := []) [] (by decide) rfl
        exact W.iret (v := 0) hx hb hr (fun t ht hW => ⟨⟨0, (), rfl, (by (repeat' split) <;> first | rfl | (exfalso; omega)), by rw [ht]; exact hP9, hD9⟩, hS.F ht⟩) hS.2.2 dX8_image_61
      · have c_8 : i_5.toInt < 409 := ti_nle c_8
        refine lv_aload_n hx hb dX8_image_27 rfl (lv_at hl 1 rfl) ?_
        refine va_get (D := D) (ci := 7) (v := .ref (mm 1)) (C := RX8) (T := TX8) (N := 33) hx hb hts inlX8 hown hK hP 0 rfl rfl 1 (by decide) (hts _ mw_91) (fun _ h9 => h9) rfl dX8_image_28 ?_
        refine lv_sipush (v := 409) hx hb dX8_image_31 (by decide) ?_
        refine lv_iload_n hx hb dX8_image_34 rfl (lv_at hl 2 rfl) ?_
        refine lv_ni (v := 0) (qc_3) ?_
        refine lv_iconst (v := 1) hx hb dX8_image_35 (by decide) ?_
        refine lv_iadd hx hb dX8_image_36 ?_
        refine lv_ni (v := 1) (by decide) ?_
        refine lv_imul hx hb dX8_image_37 ?_
        refine lv_ni (v := 409) (by decide) ?_
        refine lv_iload_n hx hb dX8_image_38 rfl (lv_at hl 0 rfl) ?_
        refine lv_iadd hx hb dX8_image_39 ?_
        refine lv_topi (fun z_10 ez_10 => ?_)
        have tz_10 : z_10.toInt = 409 + i_5.toInt := by rw [ez_10]; exact ti_addcl (by decide) (by omega) (by omega)
        refine lv_aload_n hx hb dX8_image_40 rfl (lv_at hl 1 rfl) ?_
        refine va_get (D := D) (ci := 7) (v := .ref (mm 1)) (C := RX8) (T := TX8) (N := 33) hx hb hts inlX8 hown hK hP 0 rfl rfl 1 (by decide) (hts _ mw_91) (fun _ h9 => h9) rfl dX8_image_41 ?_
        refine lv_iload_n hx hb dX8_image_44 rfl (lv_at hl 0 rfl) ?_
        refine va_iald hx hb hK hP 1 0 rfl rfl (vp_in_o (by omega) (by omega)) dX8_image_45 ?_
        refine lv_topi (fun z_11 ez_11 => ?_)
        refine va_iast hx hb hK hP hD hS 1 0 rfl rfl (vp_in_o (by omega) (by omega)) dX8_image_46 (fun H locs hP hD hS => ?_)
        have hP : va_P D vwCl [((mm 0), .inr (7, [.int 0, .ref (mm 1), .ref (mm 2), .ref (mm 3), .ref (mm 4), .ref (mm 5), .int 0, .int 0, .int 0, .int 0, .int 0, .int 0, .int 0, .int 0, .int 0, .int (-1), .int 0, .ref (mm 6), .int 0, .ref (mm 7), .ref (mm 8), .ref (mm 9), .int 0, .ref (mm 10), .ref (mm 11), .int 0, .int 0, .ref (mm 12), .ref (mm 13), .int 0, .ref (mm 14), .ref (mm 15), .ref (mm 16)])), ((mm 1), .inl (k 0, 1227, .inl (upd f_6 z_10.toNatClampNeg z_11))), ((mm 3), .inl (k 3, 2, .inl (fun _ => 0)))] H := hP
        have hD : va_D A [((mm 0), .inr (7, [.int 0, .ref (mm 1), .ref (mm 2), .ref (mm 3), .ref (mm 4), .ref (mm 5), .int 0, .int 0, .int 0, .int 0, .int 0, .int 0, .int 0, .int 0, .int 0, .int (-1), .int 0, .ref (mm 6), .int 0, .ref (mm 7), .ref (mm 8), .ref (mm 9), .int 0, .ref (mm 10), .ref (mm 11), .int 0, .int 0, .ref (mm 12), .ref (mm 13), .int 0, .ref (mm 14), .ref (mm 15), .ref (mm 16)])), ((mm 1), .inl (k 0, 1227, .inl (upd f_6 z_10.toNatClampNeg z_11))), ((mm 3), .inl (k 3, 2, .inl (fun _ => 0)))] := hD
        generalize ef_12 : (upd f_6 z_10.toNatClampNeg z_11) = f_12 at hP hD
        obtain ⟨z_13, ez_13⟩ : ∃ y : Int32, y = i_5 + 1 := ⟨_, rfl⟩
        have tz_13 : z_13.toInt = i_5.toInt + 1 := by rw [ez_13]; exact ti_addc (by decide) (by omega) (by omega)
        refine lv_iinc (v := z_13) (lv' := [(2, .int z_13), (0, .ref (mm 0)), (1, .int a)]) hx hb dX8_image_47 hl (k := 0) rfl (ez_13.symm) (by decide) rfl (fun ls hl => ?_)
        refine lv_goto (tgt := 20) hx hb dX8_image_50 (by decide) ?_
        exact ih (z_13, f_12) _ _ ls (by show (409 - z_13.toInt).toNat < (409 - i_5.toInt).toNat; omega) ⟨(show 0 ≤ z_13.toInt ∧ z_13.toInt ≤ 409 from ⟨by omega, by omega⟩), hP.sub [0, 1, 2] rfl, hD.sub [0, 1, 2] (by decide) rfl, hS, lv_sub hl [0, 1, 2] rfl⟩
    · have qc_4 : a = 1 := ti_of (show a.toInt = 1 from c_4)
      refine lv_iconst (v := 0) hx hb dX8_image_18 (by decide) ?_
      refine lv_istore_n (lv' := [(2, .int 0), (0, .ref (mm 0)), (1, .int a)]) hx hb dX8_image_19 rfl hl (by decide) rfl (fun ls hl => ?_)
      refine W_loop (σ := Int32 × (Nat → Int32)) (fun xx H locs ls => (0 ≤ xx.1.toInt ∧ xx.1.toInt ≤ 409) ∧ va_P D vwCl [((mm 0), .inr (7, [.int 0, .ref (mm 1), .ref (mm 2), .ref (mm 3), .ref (mm 4), .ref (mm 5), .int 0, .int 0, .int 0, .int 0, .int 0, .int 0, .int 0, .int 0, .int 0, .int (-1), .int 0, .ref (mm 6), .int 0, .ref (mm 7), .ref (mm 8), .ref (mm 9), .int 0, .ref (mm 10), .ref (mm 11), .int 0, .int 0, .ref (mm 12), .ref (mm 13), .int 0, .ref (mm 14), .ref (mm 15), .ref (mm 16)])), ((mm 1), .inl (k 0, 1227, .inl xx.2)), ((mm 3), .inl (k 3, 2, .inl (fun _ => 0)))] H ∧ va_D A [((mm 0), .inr (7, [.int 0, .ref (mm 1), .ref (mm 2), .ref (mm 3), .ref (mm 4), .ref (mm 5), .int 0, .int 0, .int 0, .int 0, .int 0, .int 0, .int 0, .int 0, .int 0, .int (-1), .int 0, .ref (mm 6), .int 0, .ref (mm 7), .ref (mm 8), .ref (mm 9), .int 0, .ref (mm 10), .ref (mm 11), .int 0, .int 0, .ref (mm 12), .ref (mm 13), .int 0, .ref (mm 14), .ref (mm 15), .ref (mm 16)])), ((mm 1), .inl (k 0, 1227, .inl xx.2)), ((mm 3), .inl (k 3, 2, .inl (fun _ => 0)))] ∧ va_S A s.heap H locs ∧ lv_has ls 3 [(2, .int xx.1), (0, .ref (mm 0)), (1, .int a)]) (fun xx => (409 - xx.1.toInt).toNat) ?_ (0, f) _ _ ls ⟨(show 0 ≤ (0 : Int32).toInt ∧ (0 : Int32).toInt ≤ 409 from ⟨by decide, by decide⟩), hP.sub [0, 1, 2] rfl, hD.sub [0, 1, 2] (by decide) rfl, hS, lv_sub hl [0, 1, 2] rfl⟩
      intro xx H locs ls hI ih
      obtain ⟨i_14, f_15⟩ := xx
      obtain ⟨h_16, hP, hD, hS, hl⟩ := hI
      have h_16 : 0 ≤ i_14.toInt ∧ i_14.toInt ≤ 409 := h_16
      obtain ⟨h_16a, h_16b⟩ := h_16
      have hP : va_P D vwCl [((mm 0), .inr (7, [.int 0, .ref (mm 1), .ref (mm 2), .ref (mm 3), .ref (mm 4), .ref (mm 5), .int 0, .int 0, .int 0, .int 0, .int 0, .int 0, .int 0, .int 0, .int 0, .int (-1), .int 0, .ref (mm 6), .int 0, .ref (mm 7), .ref (mm 8), .ref (mm 9), .int 0, .ref (mm 10), .ref (mm 11), .int 0, .int 0, .ref (mm 12), .ref (mm 13), .int 0, .ref (mm 14), .ref (mm 15), .ref (mm 16)])), ((mm 1), .inl (k 0, 1227, .inl f_15)), ((mm 3), .inl (k 3, 2, .inl (fun _ => 0)))] H := hP
      have hD : va_D A [((mm 0), .inr (7, [.int 0, .ref (mm 1), .ref (mm 2), .ref (mm 3), .ref (mm 4), .ref (mm 5), .int 0, .int 0, .int 0, .int 0, .int 0, .int 0, .int 0, .int 0, .int 0, .int (-1), .int 0, .ref (mm 6), .int 0, .ref (mm 7), .ref (mm 8), .ref (mm 9), .int 0, .ref (mm 10), .ref (mm 11), .int 0, .int 0, .ref (mm 12), .ref (mm 13), .int 0, .ref (mm 14), .ref (mm 15), .ref (mm 16)])), ((mm 1), .inl (k 0, 1227, .inl f_15)), ((mm 3), .inl (k 3, 2, .inl (fun _ => 0)))] := hD
      have hl : lv_has ls 3 [(2, .int i_14), (0, .ref (mm 0)), (1, .int a)] := hl
      refine lv_iload_n hx hb dX8_image_20 rfl (lv_at hl 0 rfl) ?_
      refine lv_sipush (v := 409) hx hb dX8_image_21 (by decide) ?_
      refine lv_icmp_ge (tgt := 53) hx hb dX8_image_24 (by decide) (fun c_17 => ?_) (fun c_17 => ?_)
      · have c_17 : 409 ≤ i_14.toInt := ti_le c_17
        have qc_17 : i_14 = 409 := ti_of (show i_14.toInt = 409 from by omega)
        refine lv_aload_n hx hb dX8_image_53 rfl (lv_at hl 1 rfl) ?_
        refine va_get (D := D) (ci := 7) (v := .ref (mm 3)) (C := RX8) (T := TX8) (N := 33) hx hb hts inlX8 hown hK hP 0 rfl rfl 3 (by decide) (hts _ mw_93) (fun _ h9 => h9) rfl dX8_image_54 ?_
        refine lv_iload_n hx hb dX8_image_57 rfl (lv_at hl 2 rfl) ?_
        refine lv_ni (v := 1) (qc_4) ?_
        refine lv_iconst (v := 1) hx hb dX8_image_58 (by decide) ?_
        refine va_zast hx hb hK hP hD hS 2 3 rfl rfl (vp_in_c (by decide)) dX8_image_59 (fun H locs hP hD hS => ?_)
        have hP : va_P D vwCl [((mm 0), .inr (7, [.int 0, .ref (mm 1), .ref (mm 2), .ref (mm 3), .ref (mm 4), .ref (mm 5), .int 0, .int 0, .int 0, .int 0, .int 0, .int 0, .int 0, .int 0, .int 0, .int (-1), .int 0, .ref (mm 6), .int 0, .ref (mm 7), .ref (mm 8), .ref (mm 9), .int 0, .ref (mm 10), .ref (mm 11), .int 0, .int 0, .ref (mm 12), .ref (mm 13), .int 0, .ref (mm 14), .ref (mm 15), .ref (mm 16)])), ((mm 1), .inl (k 0, 1227, .inl f_15)), ((mm 3), .inl (k 3, 2, .inl (upd (fun _ => 0) (1 : Int32).toNatClampNeg (vp_nar .boolean 1))))] H := hP
        have hD : va_D A [((mm 0), .inr (7, [.int 0, .ref (mm 1), .ref (mm 2), .ref (mm 3), .ref (mm 4), .ref (mm 5), .int 0, .int 0, .int 0, .int 0, .int 0, .int 0, .int 0, .int 0, .int 0, .int (-1), .int 0, .ref (mm 6), .int 0, .ref (mm 7), .ref (mm 8), .ref (mm 9), .int 0, .ref (mm 10), .ref (mm 11), .int 0, .int 0, .ref (mm 12), .ref (mm 13), .int 0, .ref (mm 14), .ref (mm 15), .ref (mm 16)])), ((mm 1), .inl (k 0, 1227, .inl f_15)), ((mm 3), .inl (k 3, 2, .inl (upd (fun _ => 0) (1 : Int32).toNatClampNeg (vp_nar .boolean 1))))] := hD
        generalize ef_18 : (upd (fun _ => 0) (1 : Int32).toNatClampNeg (vp_nar .boolean 1)) = f_18 at hP hD
        refine lv_iconst (v := 0) hx hb dX8_image_60 (by decide) ?_
        have hP9 := hP.sub (ws' := []) [] rfl
        have hD9 := hD.sub (ws' := []) [] (by decide) rfl
        exact W.iret (v := 0) hx hb hr (fun t ht hW => ⟨⟨0, (), rfl, (by (repeat' split) <;> first | rfl | (exfalso; omega)), by rw [ht]; exact hP9, hD9⟩, hS.F ht⟩) hS.2.2 dX8_image_61
      · have c_17 : i_14.toInt < 409 := ti_nle c_17
        refine lv_aload_n hx hb dX8_image_27 rfl (lv_at hl 1 rfl) ?_
        refine va_get (D := D) (ci := 7) (v := .ref (mm 1)) (C := RX8) (T := TX8) (N := 33) hx hb hts inlX8 hown hK hP 0 rfl rfl 1 (by decide) (hts _ mw_91) (fun _ h9 => h9) rfl dX8_image_28 ?_
        refine lv_sipush (v := 409) hx hb dX8_image_31 (by decide) ?_
        refine lv_iload_n hx hb dX8_image_34 rfl (lv_at hl 2 rfl) ?_
        refine lv_ni (v := 1) (qc_4) ?_
        refine lv_iconst (v := 1) hx hb dX8_image_35 (by decide) ?_
        refine lv_iadd hx hb dX8_image_36 ?_
        refine lv_ni (v := 2) (by decide) ?_
        refine lv_imul hx hb dX8_image_37 ?_
        refine lv_ni (v := 818) (by decide) ?_
        refine lv_iload_n hx hb dX8_image_38 rfl (lv_at hl 0 rfl) ?_
        refine lv_iadd hx hb dX8_image_39 ?_
        refine lv_topi (fun z_19 ez_19 => ?_)
        have tz_19 : z_19.toInt = 818 + i_14.toInt := by rw [ez_19]; exact ti_addcl (by decide) (by omega) (by omega)
        refine lv_aload_n hx hb dX8_image_40 rfl (lv_at hl 1 rfl) ?_
        refine va_get (D := D) (ci := 7) (v := .ref (mm 1)) (C := RX8) (T := TX8) (N := 33) hx hb hts inlX8 hown hK hP 0 rfl rfl 1 (by decide) (hts _ mw_91) (fun _ h9 => h9) rfl dX8_image_41 ?_
        refine lv_iload_n hx hb dX8_image_44 rfl (lv_at hl 0 rfl) ?_
        refine va_iald hx hb hK hP 1 0 rfl rfl (vp_in_o (by omega) (by omega)) dX8_image_45 ?_
        refine lv_topi (fun z_20 ez_20 => ?_)
        refine va_iast hx hb hK hP hD hS 1 0 rfl rfl (vp_in_o (by omega) (by omega)) dX8_image_46 (fun H locs hP hD hS => ?_)
        have hP : va_P D vwCl [((mm 0), .inr (7, [.int 0, .ref (mm 1), .ref (mm 2), .ref (mm 3), .ref (mm 4), .ref (mm 5), .int 0, .int 0, .int 0, .int 0, .int 0, .int 0, .int 0, .int 0, .int 0, .int (-1), .int 0, .ref (mm 6), .int 0, .ref (mm 7), .ref (mm 8), .ref (mm 9), .int 0, .ref (mm 10), .ref (mm 11), .int 0, .int 0, .ref (mm 12), .ref (mm 13), .int 0, .ref (mm 14), .ref (mm 15), .ref (mm 16)])), ((mm 1), .inl (k 0, 1227, .inl (upd f_15 z_19.toNatClampNeg z_20))), ((mm 3), .inl (k 3, 2, .inl (fun _ => 0)))] H := hP
        have hD : va_D A [((mm 0), .inr (7, [.int 0, .ref (mm 1), .ref (mm 2), .ref (mm 3), .ref (mm 4), .ref (mm 5), .int 0, .int 0, .int 0, .int 0, .int 0, .int 0, .int 0, .int 0, .int 0, .int (-1), .int 0, .ref (mm 6), .int 0, .ref (mm 7), .ref (mm 8), .ref (mm 9), .int 0, .ref (mm 10), .ref (mm 11), .int 0, .int 0, .ref (mm 12), .ref (mm 13), .int 0, .ref (mm 14), .ref (mm 15), .ref (mm 16)])), ((mm 1), .inl (k 0, 1227, .inl (upd f_15 z_19.toNatClampNeg z_20))), ((mm 3), .inl (k 3, 2, .inl (fun _ => 0)))] := hD
        generalize ef_21 : (upd f_15 z_19.toNatClampNeg z_20) = f_21 at hP hD
        obtain ⟨z_22, ez_22⟩ : ∃ y : Int32, y = i_14 + 1 := ⟨_, rfl⟩
        have tz_22 : z_22.toInt = i_14.toInt + 1 := by rw [ez_22]; exact ti_addc (by decide) (by omega) (by omega)
        refine lv_iinc (v := z_22) (lv' := [(2, .int z_22), (0, .ref (mm 0)), (1, .int a)]) hx hb dX8_image_47 hl (k := 0) rfl (ez_22.symm) (by decide) rfl (fun ls hl => ?_)
        refine lv_goto (tgt := 20) hx hb dX8_image_50 (by decide) ?_
        exact ih (z_22, f_21) _ _ ls (by show (409 - z_22.toInt).toNat < (409 - i_14.toInt).toNat; omega) ⟨(show 0 ≤ z_22.toInt ∧ z_22.toInt ≤ 409 from ⟨by omega, by omega⟩), hP.sub [0, 1, 2] rfl, hD.sub [0, 1, 2] (by decide) rfl, hS, lv_sub hl [0, 1, 2] rfl⟩
  have hr_1 := hr_1.trans (if_neg hc_2)
  obtain rfl : r_1 = 0 := hr_1
  refine lv_if_ne (tgt := 18) hx hb dX8_image_12 (by decide) (fun c9 => absurd c9 (by decide)) (fun _ => ?_)
  refine lv_bipush (v := (-2)) hx hb dX8_image_15 (by decide) ?_
  have hP9 := hP.sub (ws' := []) [] rfl
  have hD9 := hD.sub (ws' := []) [] (by decide) rfl
  exact W.iret (v := (-2)) hx hb hr (fun t ht hW => ⟨⟨(-2), (), rfl, (by (repeat' split) <;> first | rfl | (exfalso; omega)), by rw [ht]; exact hP9, hD9⟩, hS.F ht⟩) hS.2.2 dX8_image_17
set_option maxHeartbeats 4000000 in
set_option maxRecDepth 100000 in
theorem c_M_restore (l : Launch) (D : va_G) (k : Nat → ClassId) (mm : Nat → Nat) (a : Int32) (sz : Nat) : Met l yX8_restore (Cond.code yX8_restore cX8_restore 3 (some .int) :: wsL_law) ({ frames := 1, cells := 0, slots := 0, locals := 60 } : Room) (va_Pc [.ref (mm 0), .int a] (pu D k sz [((mm 0), .inr (7, [.int 0, .ref (mm 1), .ref (mm 2), .ref (mm 3), .ref (mm 4), .ref (mm 5), .int 0, .int 0, .int 0, .int 0, .int 0, .int 0, .int 0, .int 0, .int 0, .int (-1), .int 0, .ref (mm 6), .int 0, .ref (mm 7), .ref (mm 8), .ref (mm 9), .int 0, .ref (mm 10), .ref (mm 11), .int 0, .int 0, .ref (mm 12), .ref (mm 13), .int 0, .ref (mm 14), .ref (mm 15), .ref (mm 16)])), ((mm 3), .inl (k 3, 2, .inl (fun _ => 0)))])) (va_Qi (fun rr (uu : Unit) => rr = if 0 ≤ a.toInt ∧ a.toInt ≤ 1 then (-5) else (-2)) (qu D (va_A [((mm 0), .inr (7, [.int 0, .ref (mm 1), .ref (mm 2), .ref (mm 3), .ref (mm 4), .ref (mm 5), .int 0, .int 0, .int 0, .int 0, .int 0, .int 0, .int 0, .int 0, .int 0, .int (-1), .int 0, .ref (mm 6), .int 0, .ref (mm 7), .ref (mm 8), .ref (mm 9), .int 0, .ref (mm 10), .ref (mm 11), .int 0, .int 0, .ref (mm 12), .ref (mm 13), .int 0, .ref (mm 14), .ref (mm 15), .ref (mm 16)])), ((mm 3), .inl (k 3, 2, .inl (fun _ => 0)))] sz) (fun uu : Unit => [])) (va_A [((mm 0), .inr (7, [.int 0, .ref (mm 1), .ref (mm 2), .ref (mm 3), .ref (mm 4), .ref (mm 5), .int 0, .int 0, .int 0, .int 0, .int 0, .int 0, .int 0, .int 0, .int 0, .int (-1), .int 0, .ref (mm 6), .int 0, .ref (mm 7), .ref (mm 8), .ref (mm 9), .int 0, .ref (mm 10), .ref (mm 11), .int 0, .int 0, .ref (mm 12), .ref (mm 13), .int 0, .ref (mm 14), .ref (mm 15), .ref (mm 16)])), ((mm 3), .inl (k 3, 2, .inl (fun _ => 0)))] sz)) 0 0 (va_A [((mm 0), .inr (7, [.int 0, .ref (mm 1), .ref (mm 2), .ref (mm 3), .ref (mm 4), .ref (mm 5), .int 0, .int 0, .int 0, .int 0, .int 0, .int 0, .int 0, .int 0, .int 0, .int (-1), .int 0, .ref (mm 6), .int 0, .ref (mm 7), .ref (mm 8), .ref (mm 9), .int 0, .ref (mm 10), .ref (mm 11), .int 0, .int 0, .ref (mm 12), .ref (mm 13), .int 0, .ref (mm 14), .ref (mm 15), .ref (mm 16)])), ((mm 3), .inl (k 3, 2, .inl (fun _ => 0)))] sz) := by
  refine Met.ofW (cc := cX8_restore) (maxL := 3) (ret := (some .int)) (by decide) rfl ?_
  intro p e s m args below meth c s₁ B hml hv
  obtain ⟨rfl, hsz, hP, hK, hD0⟩ := hv
  have hx := B.exec
  have hb := B.bytes
  have hr := B.returns
  have hts : ∀ w ∈ wsL_law, w.before _ s = true := fun w h => atoms_spec (ws := Cond.code yX8_restore cX8_restore 3 (some .int) :: wsL_law) B.pre w (List.mem_cons_of_mem _ h)
  have hown : s.vm.findClass RX8 = some m.cls := findClass_of_methodNamed B.named
  have hlocks := B.notSynchronized
  subst hsz
  have hD := hD0.self (sz := s.heap.size)
  generalize hAe : va_A [((mm 0), .inr (7, [.int 0, .ref (mm 1), .ref (mm 2), .ref (mm 3), .ref (mm 4), .ref (mm 5), .int 0, .int 0, .int 0, .int 0, .int 0, .int 0, .int 0, .int 0, .int 0, .int (-1), .int 0, .ref (mm 6), .int 0, .ref (mm 7), .ref (mm 8), .ref (mm 9), .int 0, .ref (mm 10), .ref (mm 11), .int 0, .int 0, .ref (mm 12), .ref (mm 13), .int 0, .ref (mm 14), .ref (mm 15), .ref (mm 16)])), ((mm 3), .inl (k 3, 2, .inl (fun _ => 0)))] s.heap.size = A at hD ⊢
  have hA : ∀ q : Nat, s.heap.size ≤ q → A q := fun q h => by rw [← hAe]; exact Or.inr h
  have hS : va_S A s.heap s.heap [] := va_S.rf
  have hP : va_P D vwCl [((mm 0), .inr (7, [.int 0, .ref (mm 1), .ref (mm 2), .ref (mm 3), .ref (mm 4), .ref (mm 5), .int 0, .int 0, .int 0, .int 0, .int 0, .int 0, .int 0, .int 0, .int 0, .int (-1), .int 0, .ref (mm 6), .int 0, .ref (mm 7), .ref (mm 8), .ref (mm 9), .int 0, .ref (mm 10), .ref (mm 11), .int 0, .int 0, .ref (mm 12), .ref (mm 13), .int 0, .ref (mm 14), .ref (mm 15), .ref (mm 16)])), ((mm 3), .inl (k 3, 2, .inl (fun _ => 0)))] s.heap := hP
  have hl := lv_entry ([.ref (mm 0), .int a]) (n := 3) (Nat.le_of_ble_eq_true rfl)
  rw [lg_entry_eq]
  generalize (lg_sl ([.ref (mm 0), .int a]) ++ List.replicate (3 - (lg_sl ([.ref (mm 0), .int a])).length) Slot.unset).toArray = ls at hl ⊢
  have hl : lv_has ls 3 [(0, .ref (mm 0)), (1, .int a)] := hl
  refine lv_aload_n hx hb dX8_restore_0 rfl (lv_at hl 0 rfl) ?_
  refine lv_iconst (v := 0) hx hb dX8_restore_1 (by decide) ?_
  refine va_put (D := D) (ci := 7) (v := .int 0) (ty := .int) (C := RX8) (T := TX8) (N := 33) hx hb hts inlX8 tyX8 tyX8_ok nmX8 hown hK hP hD hS 0 rfl rfl 0 (by decide) (hts _ mw_125) (fun _ h9 => h9) rfl (by decide +kernel) rfl rfl (Nat.le_of_ble_eq_true rfl) dX8_restore_2 (fun H locs hP hD hS => ?_)
  have hP : va_P D vwCl [((mm 0), .inr (7, [.int 0, .ref (mm 1), .ref (mm 2), .ref (mm 3), .ref (mm 4), .ref (mm 5), .int 0, .int 0, .int 0, .int 0, .int 0, .int 0, .int 0, .int 0, .int 0, .int (-1), .int 0, .ref (mm 6), .int 0, .ref (mm 7), .ref (mm 8), .ref (mm 9), .int 0, .ref (mm 10), .ref (mm 11), .int 0, .int 0, .ref (mm 12), .ref (mm 13), .int 0, .ref (mm 14), .ref (mm 15), .ref (mm 16)])), ((mm 3), .inl (k 3, 2, .inl (fun _ => 0)))] H := hP
  have hD : va_D A [((mm 0), .inr (7, [.int 0, .ref (mm 1), .ref (mm 2), .ref (mm 3), .ref (mm 4), .ref (mm 5), .int 0, .int 0, .int 0, .int 0, .int 0, .int 0, .int 0, .int 0, .int 0, .int (-1), .int 0, .ref (mm 6), .int 0, .ref (mm 7), .ref (mm 8), .ref (mm 9), .int 0, .ref (mm 10), .ref (mm 11), .int 0, .int 0, .ref (mm 12), .ref (mm 13), .int 0, .ref (mm 14), .ref (mm 15), .ref (mm 16)])), ((mm 3), .inl (k 3, 2, .inl (fun _ => 0)))] := hD
  refine lv_iload_n hx hb dX8_restore_5 rfl (lv_at hl 1 rfl) ?_
  refine lv_i2l (v := a.toInt64) hx hb dX8_restore_6 rfl ?_
  refine lv_lconst (v := 0) hx hb dX8_restore_7 (by decide) ?_
  refine lv_lconst (v := 1) hx hb dX8_restore_8 (by decide) ?_
  refine kS_i (As := [.long a.toInt64, .long 0, .long 1]) (rest := []) (cs := []) ⟨hx, hb, hml, hown, hts⟩ (c_M_within l D k a 0 1) (gS mw_294 mw_295 mw_5 mw_296) hd_yX8_within rfl rfl ⟨Nat.le_of_ble_eq_true rfl, Nat.le_of_ble_eq_true rfl⟩ hK (hP.sub (ws' := []) [] rfl) rfl hl.1 rfl (Nat.le_of_ble_eq_true rfl) dX8_restore_9 ⟨Nat.le_of_ble_eq_true rfl, Nat.le_of_ble_eq_true rfl⟩ (fun r_1 hr_1 => ?_)
  by_cases hc_2 : 0 ≤ a.toInt ∧ a.toInt ≤ 1
  · obtain rfl : r_1 = 1 := hr_1.trans (if_pos hc_2)
    refine lv_if_ne (tgt := 18) hx hb dX8_restore_12 (by decide) (fun _ => ?_) (fun c9 => absurd c9 (by decide))
    refine lv_aload_n hx hb dX8_restore_18 rfl (lv_at hl 0 rfl) ?_
    refine va_get (D := D) (ci := 7) (v := .ref (mm 3)) (C := RX8) (T := TX8) (N := 33) hx hb hts inlX8 hown hK hP 0 rfl rfl 3 (by decide) (hts _ mw_93) (fun _ h9 => h9) rfl dX8_restore_19 ?_
    refine lv_iload_n hx hb dX8_restore_22 rfl (lv_at hl 1 rfl) ?_
    refine va_zald hx hb hK hP 1 3 rfl rfl (vp_in_o (by omega) (by omega)) dX8_restore_23 ?_
    refine lv_ni (v := 0) (rfl) ?_
    refine lv_if_ne (tgt := 30) hx hb dX8_restore_24 (by decide) (fun c9 => absurd c9 (by decide)) (fun _ => ?_)
    refine lv_bipush (v := (-5)) hx hb dX8_restore_27 (by decide) ?_
    have hP9 := hP.sub (ws' := []) [] rfl
    have hD9 := hD.sub (ws' := []) [] (by decide) rfl
    exact W.iret (v := (-5)) hx hb hr (fun t ht hW => ⟨⟨(-5), (), rfl, (by (repeat' split) <;> first | rfl | (exfalso; omega)), by rw [ht]; exact hP9, hD9⟩, hS.F ht⟩) hS.2.2 dX8_restore_29
  have hr_1 := hr_1.trans (if_neg hc_2)
  obtain rfl : r_1 = 0 := hr_1
  refine lv_if_ne (tgt := 18) hx hb dX8_restore_12 (by decide) (fun c9 => absurd c9 (by decide)) (fun _ => ?_)
  refine lv_bipush (v := (-2)) hx hb dX8_restore_15 (by decide) ?_
  have hP9 := hP.sub (ws' := []) [] rfl
  have hD9 := hD.sub (ws' := []) [] (by decide) rfl
  exact W.iret (v := (-2)) hx hb hr (fun t ht hW => ⟨⟨(-2), (), rfl, (by (repeat' split) <;> first | rfl | (exfalso; omega)), by rw [ht]; exact hP9, hD9⟩, hS.F ht⟩) hS.2.2 dX8_restore_17
set_option maxHeartbeats 4000000 in
set_option maxRecDepth 100000 in
theorem c_M_count (l : Launch) (D : va_G) (k : Nat → ClassId) (mm : Nat → Nat) (f : Nat → Int32) (a : Int32) (sz : Nat) (hf0 : f 0 = 0) (hf1 : f 1 = 0) (hf2 : f 2 = 3) (hf3 : f 3 = 8) (hf4 : f 4 = 4) (hf5 : f 5 = 4) (hf6 : f 6 = 0) (hf7 : f 7 = 0) : Met l yX8_count (Cond.code yX8_count cX8_count 2 (some .int) :: wsL_law) ({ frames := 1, cells := 0, slots := 0, locals := 60 } : Room) (va_Pc [.ref (mm 0), .int a] (pu D k sz [((mm 0), .inr (7, [.int 0, .ref (mm 1), .ref (mm 2), .ref (mm 3), .ref (mm 4), .ref (mm 5), .int 0, .int 0, .int 0, .int 0, .int 0, .int 0, .int 0, .int 0, .int 0, .int (-1), .int 0, .ref (mm 6), .int 0, .ref (mm 7), .ref (mm 8), .ref (mm 9), .int 0, .ref (mm 10), .ref (mm 11), .int 0, .int 0, .ref (mm 12), .ref (mm 13), .int 0, .ref (mm 14), .ref (mm 15), .ref (mm 16)])), ((mm 1), .inl (k 0, 1227, .inl f))])) (va_Qi (fun rr (uu : Unit) => rr = if a.toInt = 2 then 3 else if a.toInt = 3 then 8 else if a.toInt = 4 ∨ a.toInt = 5 then 4 else if 0 ≤ a.toInt ∧ a.toInt ≤ 13 then 0 else (-1)) (qu D (va_A [((mm 0), .inr (7, [.int 0, .ref (mm 1), .ref (mm 2), .ref (mm 3), .ref (mm 4), .ref (mm 5), .int 0, .int 0, .int 0, .int 0, .int 0, .int 0, .int 0, .int 0, .int 0, .int (-1), .int 0, .ref (mm 6), .int 0, .ref (mm 7), .ref (mm 8), .ref (mm 9), .int 0, .ref (mm 10), .ref (mm 11), .int 0, .int 0, .ref (mm 12), .ref (mm 13), .int 0, .ref (mm 14), .ref (mm 15), .ref (mm 16)])), ((mm 1), .inl (k 0, 1227, .inl f))] sz) (fun uu : Unit => [])) (va_A [((mm 0), .inr (7, [.int 0, .ref (mm 1), .ref (mm 2), .ref (mm 3), .ref (mm 4), .ref (mm 5), .int 0, .int 0, .int 0, .int 0, .int 0, .int 0, .int 0, .int 0, .int 0, .int (-1), .int 0, .ref (mm 6), .int 0, .ref (mm 7), .ref (mm 8), .ref (mm 9), .int 0, .ref (mm 10), .ref (mm 11), .int 0, .int 0, .ref (mm 12), .ref (mm 13), .int 0, .ref (mm 14), .ref (mm 15), .ref (mm 16)])), ((mm 1), .inl (k 0, 1227, .inl f))] sz)) 0 0 (va_A [((mm 0), .inr (7, [.int 0, .ref (mm 1), .ref (mm 2), .ref (mm 3), .ref (mm 4), .ref (mm 5), .int 0, .int 0, .int 0, .int 0, .int 0, .int 0, .int 0, .int 0, .int 0, .int (-1), .int 0, .ref (mm 6), .int 0, .ref (mm 7), .ref (mm 8), .ref (mm 9), .int 0, .ref (mm 10), .ref (mm 11), .int 0, .int 0, .ref (mm 12), .ref (mm 13), .int 0, .ref (mm 14), .ref (mm 15), .ref (mm 16)])), ((mm 1), .inl (k 0, 1227, .inl f))] sz) := by
  refine Met.ofW (cc := cX8_count) (maxL := 2) (ret := (some .int)) (by decide) rfl ?_
  intro p e s m args below meth c s₁ B hml hv
  obtain ⟨rfl, hsz, hP, hK, hD0⟩ := hv
  have hx := B.exec
  have hb := B.bytes
  have hr := B.returns
  have hts : ∀ w ∈ wsL_law, w.before _ s = true := fun w h => atoms_spec (ws := Cond.code yX8_count cX8_count 2 (some .int) :: wsL_law) B.pre w (List.mem_cons_of_mem _ h)
  have hown : s.vm.findClass RX8 = some m.cls := findClass_of_methodNamed B.named
  have hlocks := B.notSynchronized
  subst hsz
  have hD := hD0.self (sz := s.heap.size)
  generalize hAe : va_A [((mm 0), .inr (7, [.int 0, .ref (mm 1), .ref (mm 2), .ref (mm 3), .ref (mm 4), .ref (mm 5), .int 0, .int 0, .int 0, .int 0, .int 0, .int 0, .int 0, .int 0, .int 0, .int (-1), .int 0, .ref (mm 6), .int 0, .ref (mm 7), .ref (mm 8), .ref (mm 9), .int 0, .ref (mm 10), .ref (mm 11), .int 0, .int 0, .ref (mm 12), .ref (mm 13), .int 0, .ref (mm 14), .ref (mm 15), .ref (mm 16)])), ((mm 1), .inl (k 0, 1227, .inl f))] s.heap.size = A at hD ⊢
  have hA : ∀ q : Nat, s.heap.size ≤ q → A q := fun q h => by rw [← hAe]; exact Or.inr h
  have hS : va_S A s.heap s.heap [] := va_S.rf
  have hP : va_P D vwCl [((mm 0), .inr (7, [.int 0, .ref (mm 1), .ref (mm 2), .ref (mm 3), .ref (mm 4), .ref (mm 5), .int 0, .int 0, .int 0, .int 0, .int 0, .int 0, .int 0, .int 0, .int 0, .int (-1), .int 0, .ref (mm 6), .int 0, .ref (mm 7), .ref (mm 8), .ref (mm 9), .int 0, .ref (mm 10), .ref (mm 11), .int 0, .int 0, .ref (mm 12), .ref (mm 13), .int 0, .ref (mm 14), .ref (mm 15), .ref (mm 16)])), ((mm 1), .inl (k 0, 1227, .inl f))] s.heap := hP
  have hl := lv_entry ([.ref (mm 0), .int a]) (n := 2) (Nat.le_of_ble_eq_true rfl)
  rw [lg_entry_eq]
  generalize (lg_sl ([.ref (mm 0), .int a]) ++ List.replicate (2 - (lg_sl ([.ref (mm 0), .int a])).length) Slot.unset).toArray = ls at hl ⊢
  have hl : lv_has ls 2 [(0, .ref (mm 0)), (1, .int a)] := hl
  refine lv_aload_n hx hb dX8_count_0 rfl (lv_at hl 0 rfl) ?_
  refine lv_iconst (v := 0) hx hb dX8_count_1 (by decide) ?_
  refine va_put (D := D) (ci := 7) (v := .int 0) (ty := .int) (C := RX8) (T := TX8) (N := 33) hx hb hts inlX8 tyX8 tyX8_ok nmX8 hown hK hP hD hS 0 rfl rfl 0 (by decide) (hts _ mw_125) (fun _ h9 => h9) rfl (by decide +kernel) rfl rfl (Nat.le_of_ble_eq_true rfl) dX8_count_2 (fun H locs hP hD hS => ?_)
  have hP : va_P D vwCl [((mm 0), .inr (7, [.int 0, .ref (mm 1), .ref (mm 2), .ref (mm 3), .ref (mm 4), .ref (mm 5), .int 0, .int 0, .int 0, .int 0, .int 0, .int 0, .int 0, .int 0, .int 0, .int (-1), .int 0, .ref (mm 6), .int 0, .ref (mm 7), .ref (mm 8), .ref (mm 9), .int 0, .ref (mm 10), .ref (mm 11), .int 0, .int 0, .ref (mm 12), .ref (mm 13), .int 0, .ref (mm 14), .ref (mm 15), .ref (mm 16)])), ((mm 1), .inl (k 0, 1227, .inl f))] H := hP
  have hD : va_D A [((mm 0), .inr (7, [.int 0, .ref (mm 1), .ref (mm 2), .ref (mm 3), .ref (mm 4), .ref (mm 5), .int 0, .int 0, .int 0, .int 0, .int 0, .int 0, .int 0, .int 0, .int 0, .int (-1), .int 0, .ref (mm 6), .int 0, .ref (mm 7), .ref (mm 8), .ref (mm 9), .int 0, .ref (mm 10), .ref (mm 11), .int 0, .int 0, .ref (mm 12), .ref (mm 13), .int 0, .ref (mm 14), .ref (mm 15), .ref (mm 16)])), ((mm 1), .inl (k 0, 1227, .inl f))] := hD
  refine lv_iload_n hx hb dX8_count_5 rfl (lv_at hl 1 rfl) ?_
  by_cases c_1 : a = 0
  · have qc_1 : a.toInt = 0 := ti_eq c_1
    refine lv_ni (v := 0) c_1 ?_
    refine lv_tableIn (off := 70) (tgt := 76) hx hb dX8_count_6 (by decide) (by decide) (by decide) (by decide) ?_
    refine lv_aload_n hx hb dX8_count_76 rfl (lv_at hl 0 rfl) ?_
    refine va_get (D := D) (ci := 7) (v := .ref (mm 1)) (C := RX8) (T := TX8) (N := 33) hx hb hts inlX8 hown hK hP 0 rfl rfl 1 (by decide) (hts _ mw_91) (fun _ h9 => h9) rfl dX8_count_77 ?_
    refine lv_iconst (v := 0) hx hb dX8_count_80 (by decide) ?_
    refine va_iald hx hb hK hP 1 0 rfl rfl (vp_in_c (by decide)) dX8_count_81 ?_
    refine lv_ni (v := 0) (hf0) ?_
    have hP9 := hP.sub (ws' := []) [] rfl
    have hD9 := hD.sub (ws' := []) [] (by decide) rfl
    exact W.iret (v := 0) hx hb hr (fun t ht hW => ⟨⟨0, (), rfl, (by (repeat' split) <;> first | rfl | (exfalso; omega)), by rw [ht]; exact hP9, hD9⟩, hS.F ht⟩) hS.2.2 dX8_count_82
  have c_1 : a.toInt ≠ 0 := ti_ne c_1
  by_cases c_2 : a = 1
  · have qc_2 : a.toInt = 1 := ti_eq c_2
    refine lv_ni (v := 1) c_2 ?_
    refine lv_tableIn (off := 77) (tgt := 83) hx hb dX8_count_6 (by decide) (by decide) (by decide) (by decide) ?_
    refine lv_aload_n hx hb dX8_count_83 rfl (lv_at hl 0 rfl) ?_
    refine va_get (D := D) (ci := 7) (v := .ref (mm 1)) (C := RX8) (T := TX8) (N := 33) hx hb hts inlX8 hown hK hP 0 rfl rfl 1 (by decide) (hts _ mw_91) (fun _ h9 => h9) rfl dX8_count_84 ?_
    refine lv_iconst (v := 1) hx hb dX8_count_87 (by decide) ?_
    refine va_iald hx hb hK hP 1 0 rfl rfl (vp_in_c (by decide)) dX8_count_88 ?_
    refine lv_ni (v := 0) (hf1) ?_
    have hP9 := hP.sub (ws' := []) [] rfl
    have hD9 := hD.sub (ws' := []) [] (by decide) rfl
    exact W.iret (v := 0) hx hb hr (fun t ht hW => ⟨⟨0, (), rfl, (by (repeat' split) <;> first | rfl | (exfalso; omega)), by rw [ht]; exact hP9, hD9⟩, hS.F ht⟩) hS.2.2 dX8_count_89
  have c_2 : a.toInt ≠ 1 := ti_ne c_2
  by_cases c_3 : a = 2
  · have qc_3 : a.toInt = 2 := ti_eq c_3
    refine lv_ni (v := 2) c_3 ?_
    refine lv_tableIn (off := 84) (tgt := 90) hx hb dX8_count_6 (by decide) (by decide) (by decide) (by decide) ?_
    refine lv_aload_n hx hb dX8_count_90 rfl (lv_at hl 0 rfl) ?_
    refine va_get (D := D) (ci := 7) (v := .ref (mm 1)) (C := RX8) (T := TX8) (N := 33) hx hb hts inlX8 hown hK hP 0 rfl rfl 1 (by decide) (hts _ mw_91) (fun _ h9 => h9) rfl dX8_count_91 ?_
    refine lv_iconst (v := 2) hx hb dX8_count_94 (by decide) ?_
    refine va_iald hx hb hK hP 1 0 rfl rfl (vp_in_c (by decide)) dX8_count_95 ?_
    refine lv_ni (v := 3) (hf2) ?_
    have hP9 := hP.sub (ws' := []) [] rfl
    have hD9 := hD.sub (ws' := []) [] (by decide) rfl
    exact W.iret (v := 3) hx hb hr (fun t ht hW => ⟨⟨3, (), rfl, (by (repeat' split) <;> first | rfl | (exfalso; omega)), by rw [ht]; exact hP9, hD9⟩, hS.F ht⟩) hS.2.2 dX8_count_96
  have c_3 : a.toInt ≠ 2 := ti_ne c_3
  by_cases c_4 : a = 3
  · have qc_4 : a.toInt = 3 := ti_eq c_4
    refine lv_ni (v := 3) c_4 ?_
    refine lv_tableIn (off := 91) (tgt := 97) hx hb dX8_count_6 (by decide) (by decide) (by decide) (by decide) ?_
    refine lv_aload_n hx hb dX8_count_97 rfl (lv_at hl 0 rfl) ?_
    refine va_get (D := D) (ci := 7) (v := .ref (mm 1)) (C := RX8) (T := TX8) (N := 33) hx hb hts inlX8 hown hK hP 0 rfl rfl 1 (by decide) (hts _ mw_91) (fun _ h9 => h9) rfl dX8_count_98 ?_
    refine lv_iconst (v := 3) hx hb dX8_count_101 (by decide) ?_
    refine va_iald hx hb hK hP 1 0 rfl rfl (vp_in_c (by decide)) dX8_count_102 ?_
    refine lv_ni (v := 8) (hf3) ?_
    have hP9 := hP.sub (ws' := []) [] rfl
    have hD9 := hD.sub (ws' := []) [] (by decide) rfl
    exact W.iret (v := 8) hx hb hr (fun t ht hW => ⟨⟨8, (), rfl, (by (repeat' split) <;> first | rfl | (exfalso; omega)), by rw [ht]; exact hP9, hD9⟩, hS.F ht⟩) hS.2.2 dX8_count_103
  have c_4 : a.toInt ≠ 3 := ti_ne c_4
  by_cases c_5 : a = 4
  · have qc_5 : a.toInt = 4 := ti_eq c_5
    refine lv_ni (v := 4) c_5 ?_
    refine lv_tableIn (off := 98) (tgt := 104) hx hb dX8_count_6 (by decide) (by decide) (by decide) (by decide) ?_
    refine lv_aload_n hx hb dX8_count_104 rfl (lv_at hl 0 rfl) ?_
    refine va_get (D := D) (ci := 7) (v := .ref (mm 1)) (C := RX8) (T := TX8) (N := 33) hx hb hts inlX8 hown hK hP 0 rfl rfl 1 (by decide) (hts _ mw_91) (fun _ h9 => h9) rfl dX8_count_105 ?_
    refine lv_iconst (v := 4) hx hb dX8_count_108 (by decide) ?_
    refine va_iald hx hb hK hP 1 0 rfl rfl (vp_in_c (by decide)) dX8_count_109 ?_
    refine lv_ni (v := 4) (hf4) ?_
    have hP9 := hP.sub (ws' := []) [] rfl
    have hD9 := hD.sub (ws' := []) [] (by decide) rfl
    exact W.iret (v := 4) hx hb hr (fun t ht hW => ⟨⟨4, (), rfl, (by (repeat' split) <;> first | rfl | (exfalso; omega)), by rw [ht]; exact hP9, hD9⟩, hS.F ht⟩) hS.2.2 dX8_count_110
  have c_5 : a.toInt ≠ 4 := ti_ne c_5
  by_cases c_6 : a = 5
  · have qc_6 : a.toInt = 5 := ti_eq c_6
    refine lv_ni (v := 5) c_6 ?_
    refine lv_tableIn (off := 105) (tgt := 111) hx hb dX8_count_6 (by decide) (by decide) (by decide) (by decide) ?_
    refine lv_aload_n hx hb dX8_count_111 rfl (lv_at hl 0 rfl) ?_
    refine va_get (D := D) (ci := 7) (v := .ref (mm 1)) (C := RX8) (T := TX8) (N := 33) hx hb hts inlX8 hown hK hP 0 rfl rfl 1 (by decide) (hts _ mw_91) (fun _ h9 => h9) rfl dX8_count_112 ?_
    refine lv_iconst (v := 5) hx hb dX8_count_115 (by decide) ?_
    refine va_iald hx hb hK hP 1 0 rfl rfl (vp_in_c (by decide)) dX8_count_116 ?_
    refine lv_ni (v := 4) (hf5) ?_
    have hP9 := hP.sub (ws' := []) [] rfl
    have hD9 := hD.sub (ws' := []) [] (by decide) rfl
    exact W.iret (v := 4) hx hb hr (fun t ht hW => ⟨⟨4, (), rfl, (by (repeat' split) <;> first | rfl | (exfalso; omega)), by rw [ht]; exact hP9, hD9⟩, hS.F ht⟩) hS.2.2 dX8_count_117
  have c_6 : a.toInt ≠ 5 := ti_ne c_6
  by_cases c_7 : a = 6
  · have qc_7 : a.toInt = 6 := ti_eq c_7
    refine lv_ni (v := 6) c_7 ?_
    refine lv_tableIn (off := 112) (tgt := 118) hx hb dX8_count_6 (by decide) (by decide) (by decide) (by decide) ?_
    refine lv_aload_n hx hb dX8_count_118 rfl (lv_at hl 0 rfl) ?_
    refine kV_i (q0 := 0) (As := []) (rest := []) (cs := [((mm 0), .inr (7, [.int 0, .ref (mm 1), .ref (mm 2), .ref (mm 3), .ref (mm 4), .ref (mm 5), .int 0, .int 0, .int 0, .int 0, .int 0, .int 0, .int 0, .int 0, .int 0, .int (-1), .int 0, .ref (mm 6), .int 0, .ref (mm 7), .ref (mm 8), .ref (mm 9), .int 0, .ref (mm 10), .ref (mm 11), .int 0, .int 0, .ref (mm 12), .ref (mm 13), .int 0, .ref (mm 14), .ref (mm 15), .ref (mm 16)])), ((mm 1), .inl (k 0, 1227, .inl f))]) ⟨hx, hb, hml, hown, hts⟩ (c_M_layersAll l D k _ 0 f hf0) (gV mw_1203 mw_1204 mw_1205 mw_5 mw_1206) hd_yX8_layersAll rfl rfl ⟨Nat.le_of_ble_eq_true rfl, Nat.le_of_ble_eq_true rfl⟩ hK (hP.sub (ws' := [((mm 0), .inr (7, [.int 0, .ref (mm 1), .ref (mm 2), .ref (mm 3), .ref (mm 4), .ref (mm 5), .int 0, .int 0, .int 0, .int 0, .int 0, .int 0, .int 0, .int 0, .int 0, .int (-1), .int 0, .ref (mm 6), .int 0, .ref (mm 7), .ref (mm 8), .ref (mm 9), .int 0, .ref (mm 10), .ref (mm 11), .int 0, .int 0, .ref (mm 12), .ref (mm 13), .int 0, .ref (mm 14), .ref (mm 15), .ref (mm 16)])), ((mm 1), .inl (k 0, 1227, .inl f))]) [0, 1] rfl) rfl rfl rfl rfl hl.1 rfl (Nat.le_of_ble_eq_true rfl) dX8_count_119 ⟨Nat.le_of_ble_eq_true rfl, Nat.le_of_ble_eq_true rfl⟩ (fun r_8 hr_8 => ?_)
    obtain rfl : r_8 = 0 := hr_8
    have hP9 := hP.sub (ws' := []) [] rfl
    have hD9 := hD.sub (ws' := []) [] (by decide) rfl
    exact W.iret (v := 0) hx hb hr (fun t ht hW => ⟨⟨0, (), rfl, (by (repeat' split) <;> first | rfl | (exfalso; omega)), by rw [ht]; exact hP9, hD9⟩, hS.F ht⟩) hS.2.2 dX8_count_122
  have c_7 : a.toInt ≠ 6 := ti_ne c_7
  by_cases c_9 : a = 7
  · have qc_9 : a.toInt = 7 := ti_eq c_9
    refine lv_ni (v := 7) c_9 ?_
    refine lv_tableIn (off := 117) (tgt := 123) hx hb dX8_count_6 (by decide) (by decide) (by decide) (by decide) ?_
    refine lv_aload_n hx hb dX8_count_123 rfl (lv_at hl 0 rfl) ?_
    refine lv_sipush (v := 289) hx hb dX8_count_124 (by decide) ?_
    refine kV_i (q0 := 0) (As := [.int 289]) (rest := []) (cs := [((mm 0), .inr (7, [.int 0, .ref (mm 1), .ref (mm 2), .ref (mm 3), .ref (mm 4), .ref (mm 5), .int 0, .int 0, .int 0, .int 0, .int 0, .int 0, .int 0, .int 0, .int 0, .int (-1), .int 0, .ref (mm 6), .int 0, .ref (mm 7), .ref (mm 8), .ref (mm 9), .int 0, .ref (mm 10), .ref (mm 11), .int 0, .int 0, .ref (mm 12), .ref (mm 13), .int 0, .ref (mm 14), .ref (mm 15), .ref (mm 16)])), ((mm 1), .inl (k 0, 1227, .inl f))]) ⟨hx, hb, hml, hown, hts⟩ (c_M_sumAll l D k _ 0 f 289 hf0) (gV mw_847 mw_848 mw_849 mw_5 mw_850) hd_yX8_sumAll rfl rfl ⟨Nat.le_of_ble_eq_true rfl, Nat.le_of_ble_eq_true rfl⟩ hK (hP.sub (ws' := [((mm 0), .inr (7, [.int 0, .ref (mm 1), .ref (mm 2), .ref (mm 3), .ref (mm 4), .ref (mm 5), .int 0, .int 0, .int 0, .int 0, .int 0, .int 0, .int 0, .int 0, .int 0, .int (-1), .int 0, .ref (mm 6), .int 0, .ref (mm 7), .ref (mm 8), .ref (mm 9), .int 0, .ref (mm 10), .ref (mm 11), .int 0, .int 0, .ref (mm 12), .ref (mm 13), .int 0, .ref (mm 14), .ref (mm 15), .ref (mm 16)])), ((mm 1), .inl (k 0, 1227, .inl f))]) [0, 1] rfl) rfl rfl rfl rfl hl.1 rfl (Nat.le_of_ble_eq_true rfl) dX8_count_127 ⟨Nat.le_of_ble_eq_true rfl, Nat.le_of_ble_eq_true rfl⟩ (fun r_10 hr_10 => ?_)
    obtain rfl : r_10 = 0 := hr_10
    have hP9 := hP.sub (ws' := []) [] rfl
    have hD9 := hD.sub (ws' := []) [] (by decide) rfl
    exact W.iret (v := 0) hx hb hr (fun t ht hW => ⟨⟨0, (), rfl, (by (repeat' split) <;> first | rfl | (exfalso; omega)), by rw [ht]; exact hP9, hD9⟩, hS.F ht⟩) hS.2.2 dX8_count_130
  have c_9 : a.toInt ≠ 7 := ti_ne c_9
  by_cases c_11 : a = 8
  · have qc_11 : a.toInt = 8 := ti_eq c_11
    refine lv_ni (v := 8) c_11 ?_
    refine lv_tableIn (off := 125) (tgt := 131) hx hb dX8_count_6 (by decide) (by decide) (by decide) (by decide) ?_
    refine lv_aload_n hx hb dX8_count_131 rfl (lv_at hl 0 rfl) ?_
    refine lv_sipush (v := 229) hx hb dX8_count_132 (by decide) ?_
    refine kV_i (q0 := 0) (As := [.int 229]) (rest := []) (cs := [((mm 0), .inr (7, [.int 0, .ref (mm 1), .ref (mm 2), .ref (mm 3), .ref (mm 4), .ref (mm 5), .int 0, .int 0, .int 0, .int 0, .int 0, .int 0, .int 0, .int 0, .int 0, .int (-1), .int 0, .ref (mm 6), .int 0, .ref (mm 7), .ref (mm 8), .ref (mm 9), .int 0, .ref (mm 10), .ref (mm 11), .int 0, .int 0, .ref (mm 12), .ref (mm 13), .int 0, .ref (mm 14), .ref (mm 15), .ref (mm 16)])), ((mm 1), .inl (k 0, 1227, .inl f))]) ⟨hx, hb, hml, hown, hts⟩ (c_M_sumAll l D k _ 0 f 229 hf0) (gV mw_847 mw_848 mw_849 mw_5 mw_850) hd_yX8_sumAll rfl rfl ⟨Nat.le_of_ble_eq_true rfl, Nat.le_of_ble_eq_true rfl⟩ hK (hP.sub (ws' := [((mm 0), .inr (7, [.int 0, .ref (mm 1), .ref (mm 2), .ref (mm 3), .ref (mm 4), .ref (mm 5), .int 0, .int 0, .int 0, .int 0, .int 0, .int 0, .int 0, .int 0, .int 0, .int (-1), .int 0, .ref (mm 6), .int 0, .ref (mm 7), .ref (mm 8), .ref (mm 9), .int 0, .ref (mm 10), .ref (mm 11), .int 0, .int 0, .ref (mm 12), .ref (mm 13), .int 0, .ref (mm 14), .ref (mm 15), .ref (mm 16)])), ((mm 1), .inl (k 0, 1227, .inl f))]) [0, 1] rfl) rfl rfl rfl rfl hl.1 rfl (Nat.le_of_ble_eq_true rfl) dX8_count_135 ⟨Nat.le_of_ble_eq_true rfl, Nat.le_of_ble_eq_true rfl⟩ (fun r_12 hr_12 => ?_)
    obtain rfl : r_12 = 0 := hr_12
    have hP9 := hP.sub (ws' := []) [] rfl
    have hD9 := hD.sub (ws' := []) [] (by decide) rfl
    exact W.iret (v := 0) hx hb hr (fun t ht hW => ⟨⟨0, (), rfl, (by (repeat' split) <;> first | rfl | (exfalso; omega)), by rw [ht]; exact hP9, hD9⟩, hS.F ht⟩) hS.2.2 dX8_count_138
  have c_11 : a.toInt ≠ 8 := ti_ne c_11
  by_cases c_13 : a = 9
  · have qc_13 : a.toInt = 9 := ti_eq c_13
    refine lv_ni (v := 9) c_13 ?_
    refine lv_tableIn (off := 133) (tgt := 139) hx hb dX8_count_6 (by decide) (by decide) (by decide) (by decide) ?_
    refine lv_aload_n hx hb dX8_count_139 rfl (lv_at hl 0 rfl) ?_
    refine kV_i (q0 := 0) (As := []) (rest := []) (cs := [((mm 0), .inr (7, [.int 0, .ref (mm 1), .ref (mm 2), .ref (mm 3), .ref (mm 4), .ref (mm 5), .int 0, .int 0, .int 0, .int 0, .int 0, .int 0, .int 0, .int 0, .int 0, .int (-1), .int 0, .ref (mm 6), .int 0, .ref (mm 7), .ref (mm 8), .ref (mm 9), .int 0, .ref (mm 10), .ref (mm 11), .int 0, .int 0, .ref (mm 12), .ref (mm 13), .int 0, .ref (mm 14), .ref (mm 15), .ref (mm 16)])), ((mm 1), .inl (k 0, 1227, .inl f))]) ⟨hx, hb, hml, hown, hts⟩ (c_M_laidAll l D k _ 0 f hf0) (gV mw_598 mw_599 mw_600 mw_5 mw_601) hd_yX8_laidAll rfl rfl ⟨Nat.le_of_ble_eq_true rfl, Nat.le_of_ble_eq_true rfl⟩ hK (hP.sub (ws' := [((mm 0), .inr (7, [.int 0, .ref (mm 1), .ref (mm 2), .ref (mm 3), .ref (mm 4), .ref (mm 5), .int 0, .int 0, .int 0, .int 0, .int 0, .int 0, .int 0, .int 0, .int 0, .int (-1), .int 0, .ref (mm 6), .int 0, .ref (mm 7), .ref (mm 8), .ref (mm 9), .int 0, .ref (mm 10), .ref (mm 11), .int 0, .int 0, .ref (mm 12), .ref (mm 13), .int 0, .ref (mm 14), .ref (mm 15), .ref (mm 16)])), ((mm 1), .inl (k 0, 1227, .inl f))]) [0, 1] rfl) rfl rfl rfl rfl hl.1 rfl (Nat.le_of_ble_eq_true rfl) dX8_count_140 ⟨Nat.le_of_ble_eq_true rfl, Nat.le_of_ble_eq_true rfl⟩ (fun r_14 hr_14 => ?_)
    obtain rfl : r_14 = 0 := hr_14
    have hP9 := hP.sub (ws' := []) [] rfl
    have hD9 := hD.sub (ws' := []) [] (by decide) rfl
    exact W.iret (v := 0) hx hb hr (fun t ht hW => ⟨⟨0, (), rfl, (by (repeat' split) <;> first | rfl | (exfalso; omega)), by rw [ht]; exact hP9, hD9⟩, hS.F ht⟩) hS.2.2 dX8_count_143
  have c_13 : a.toInt ≠ 9 := ti_ne c_13
  by_cases c_15 : a = 10
  · have qc_15 : a.toInt = 10 := ti_eq c_15
    refine lv_ni (v := 10) c_15 ?_
    refine lv_tableIn (off := 138) (tgt := 144) hx hb dX8_count_6 (by decide) (by decide) (by decide) (by decide) ?_
    refine lv_aload_n hx hb dX8_count_144 rfl (lv_at hl 0 rfl) ?_
    refine va_get (D := D) (ci := 7) (v := .ref (mm 1)) (C := RX8) (T := TX8) (N := 33) hx hb hts inlX8 hown hK hP 0 rfl rfl 1 (by decide) (hts _ mw_91) (fun _ h9 => h9) rfl dX8_count_145 ?_
    refine lv_bipush (v := 6) hx hb dX8_count_148 (by decide) ?_
    refine va_iald hx hb hK hP 1 0 rfl rfl (vp_in_c (by decide)) dX8_count_150 ?_
    refine lv_ni (v := 0) (hf6) ?_
    have hP9 := hP.sub (ws' := []) [] rfl
    have hD9 := hD.sub (ws' := []) [] (by decide) rfl
    exact W.iret (v := 0) hx hb hr (fun t ht hW => ⟨⟨0, (), rfl, (by (repeat' split) <;> first | rfl | (exfalso; omega)), by rw [ht]; exact hP9, hD9⟩, hS.F ht⟩) hS.2.2 dX8_count_151
  have c_15 : a.toInt ≠ 10 := ti_ne c_15
  by_cases c_16 : a = 11
  · have qc_16 : a.toInt = 11 := ti_eq c_16
    refine lv_ni (v := 11) c_16 ?_
    refine lv_tableIn (off := 146) (tgt := 152) hx hb dX8_count_6 (by decide) (by decide) (by decide) (by decide) ?_
    refine lv_aload_n hx hb dX8_count_152 rfl (lv_at hl 0 rfl) ?_
    refine va_get (D := D) (ci := 7) (v := .int 0) (C := RX8) (T := TX8) (N := 33) hx hb hts inlX8 hown hK hP 0 rfl rfl 6 (by decide) (hts _ mw_126) (fun _ h9 => h9) rfl dX8_count_153 ?_
    have hP9 := hP.sub (ws' := []) [] rfl
    have hD9 := hD.sub (ws' := []) [] (by decide) rfl
    exact W.iret (v := 0) hx hb hr (fun t ht hW => ⟨⟨0, (), rfl, (by (repeat' split) <;> first | rfl | (exfalso; omega)), by rw [ht]; exact hP9, hD9⟩, hS.F ht⟩) hS.2.2 dX8_count_156
  have c_16 : a.toInt ≠ 11 := ti_ne c_16
  by_cases c_17 : a = 12
  · have qc_17 : a.toInt = 12 := ti_eq c_17
    refine lv_ni (v := 12) c_17 ?_
    refine lv_tableIn (off := 151) (tgt := 157) hx hb dX8_count_6 (by decide) (by decide) (by decide) (by decide) ?_
    refine lv_aload_n hx hb dX8_count_157 rfl (lv_at hl 0 rfl) ?_
    refine va_get (D := D) (ci := 7) (v := .ref (mm 1)) (C := RX8) (T := TX8) (N := 33) hx hb hts inlX8 hown hK hP 0 rfl rfl 1 (by decide) (hts _ mw_91) (fun _ h9 => h9) rfl dX8_count_158 ?_
    refine lv_bipush (v := 7) hx hb dX8_count_161 (by decide) ?_
    refine va_iald hx hb hK hP 1 0 rfl rfl (vp_in_c (by decide)) dX8_count_163 ?_
    refine lv_ni (v := 0) (hf7) ?_
    have hP9 := hP.sub (ws' := []) [] rfl
    have hD9 := hD.sub (ws' := []) [] (by decide) rfl
    exact W.iret (v := 0) hx hb hr (fun t ht hW => ⟨⟨0, (), rfl, (by (repeat' split) <;> first | rfl | (exfalso; omega)), by rw [ht]; exact hP9, hD9⟩, hS.F ht⟩) hS.2.2 dX8_count_164
  have c_17 : a.toInt ≠ 12 := ti_ne c_17
  by_cases c_18 : a = 13
  · have qc_18 : a.toInt = 13 := ti_eq c_18
    refine lv_ni (v := 13) c_18 ?_
    refine lv_tableIn (off := 159) (tgt := 165) hx hb dX8_count_6 (by decide) (by decide) (by decide) (by decide) ?_
    refine lv_aload_n hx hb dX8_count_165 rfl (lv_at hl 0 rfl) ?_
    refine lv_sipush (v := 169) hx hb dX8_count_166 (by decide) ?_
    refine kV_i (q0 := 0) (As := [.int 169]) (rest := []) (cs := [((mm 0), .inr (7, [.int 0, .ref (mm 1), .ref (mm 2), .ref (mm 3), .ref (mm 4), .ref (mm 5), .int 0, .int 0, .int 0, .int 0, .int 0, .int 0, .int 0, .int 0, .int 0, .int (-1), .int 0, .ref (mm 6), .int 0, .ref (mm 7), .ref (mm 8), .ref (mm 9), .int 0, .ref (mm 10), .ref (mm 11), .int 0, .int 0, .ref (mm 12), .ref (mm 13), .int 0, .ref (mm 14), .ref (mm 15), .ref (mm 16)])), ((mm 1), .inl (k 0, 1227, .inl f))]) ⟨hx, hb, hml, hown, hts⟩ (c_M_sumAll l D k _ 0 f 169 hf0) (gV mw_847 mw_848 mw_849 mw_5 mw_850) hd_yX8_sumAll rfl rfl ⟨Nat.le_of_ble_eq_true rfl, Nat.le_of_ble_eq_true rfl⟩ hK (hP.sub (ws' := [((mm 0), .inr (7, [.int 0, .ref (mm 1), .ref (mm 2), .ref (mm 3), .ref (mm 4), .ref (mm 5), .int 0, .int 0, .int 0, .int 0, .int 0, .int 0, .int 0, .int 0, .int 0, .int (-1), .int 0, .ref (mm 6), .int 0, .ref (mm 7), .ref (mm 8), .ref (mm 9), .int 0, .ref (mm 10), .ref (mm 11), .int 0, .int 0, .ref (mm 12), .ref (mm 13), .int 0, .ref (mm 14), .ref (mm 15), .ref (mm 16)])), ((mm 1), .inl (k 0, 1227, .inl f))]) [0, 1] rfl) rfl rfl rfl rfl hl.1 rfl (Nat.le_of_ble_eq_true rfl) dX8_count_169 ⟨Nat.le_of_ble_eq_true rfl, Nat.le_of_ble_eq_true rfl⟩ (fun r_19 hr_19 => ?_)
    obtain rfl : r_19 = 0 := hr_19
    have hP9 := hP.sub (ws' := []) [] rfl
    have hD9 := hD.sub (ws' := []) [] (by decide) rfl
    exact W.iret (v := 0) hx hb hr (fun t ht hW => ⟨⟨0, (), rfl, (by (repeat' split) <;> first | rfl | (exfalso; omega)), by rw [ht]; exact hP9, hD9⟩, hS.F ht⟩) hS.2.2 dX8_count_172
  have c_18 : a.toInt ≠ 13 := ti_ne c_18
  refine lv_tableOut (tgt := 173) hx hb dX8_count_6 (by omega) (by decide) ?_
  refine lv_iconst (v := (-1)) hx hb dX8_count_173 (by decide) ?_
  have hP9 := hP.sub (ws' := []) [] rfl
  have hD9 := hD.sub (ws' := []) [] (by decide) rfl
  exact W.iret (v := (-1)) hx hb hr (fun t ht hW => ⟨⟨(-1), (), rfl, (by (repeat' split) <;> first | rfl | (exfalso; omega)), by rw [ht]; exact hP9, hD9⟩, hS.F ht⟩) hS.2.2 dX8_count_174
