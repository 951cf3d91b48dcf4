theorem dX8_see_0 : decode cX8_see 0 = .ok (.iload_n 1, 1) := by decide +kernel
theorem dX8_see_1 : decode cX8_see 1 = .ok (.aload_n 0, 1) := by decide +kernel
theorem dX8_see_2 : decode cX8_see 2 = .ok (.getfield 74, 3) := by decide +kernel
theorem mwn_287 : Cond.fieldLink RX8 74 "ThatchNextModel" "size" "I" ∈ wsL_law := List.mem_of_getElem? (i := 287) (by decide +kernel)
theorem dX8_see_5 : decode cX8_see 5 = .ok (.if_icmp .ge 12, 3) := by decide +kernel
theorem dX8_see_17 : decode cX8_see 17 = .ok (.iconst (-1), 1) := by decide +kernel
theorem dX8_see_18 : decode cX8_see 18 = .ok (.ireturn, 1) := by decide +kernel
theorem dX8_see_8 : decode cX8_see 8 = .ok (.aload_n 0, 1) := by decide +kernel
theorem dX8_see_9 : decode cX8_see 9 = .ok (.getfield 24, 3) := by decide +kernel
theorem mwn_94 : Cond.fieldLink RX8 24 "ThatchNextModel" "tape" "[I" ∈ wsL_law := List.mem_of_getElem? (i := 94) (by decide +kernel)
theorem dX8_see_12 : decode cX8_see 12 = .ok (.iload_n 1, 1) := by decide +kernel
theorem dX8_see_13 : decode cX8_see 13 = .ok (.iaload, 1) := by decide +kernel
theorem dX8_see_14 : decode cX8_see 14 = .ok (.goto 4, 3) := by decide +kernel
theorem dX8_isSmall_0 : decode cX8_isSmall 0 = .ok (.iload_n 0, 1) := by decide +kernel
theorem dX8_isSmall_1 : decode cX8_isSmall 1 = .ok (.bipush 97, 2) := by decide +kernel
theorem dX8_isSmall_3 : decode cX8_isSmall 3 = .ok (.if_icmp .lt 13, 3) := by decide +kernel
theorem dX8_isSmall_16 : decode cX8_isSmall 16 = .ok (.iconst 0, 1) := by decide +kernel
theorem dX8_isSmall_17 : decode cX8_isSmall 17 = .ok (.ireturn, 1) := by decide +kernel
theorem dX8_isSmall_6 : decode cX8_isSmall 6 = .ok (.iload_n 0, 1) := by decide +kernel
theorem dX8_isSmall_7 : decode cX8_isSmall 7 = .ok (.bipush 122, 2) := by decide +kernel
theorem dX8_isSmall_9 : decode cX8_isSmall 9 = .ok (.if_icmp .gt 7, 3) := by decide +kernel
theorem dX8_isSmall_12 : decode cX8_isSmall 12 = .ok (.iconst 1, 1) := by decide +kernel
theorem dX8_isSmall_13 : decode cX8_isSmall 13 = .ok (.goto 4, 3) := by decide +kernel
theorem dX8_isDigit_0 : decode cX8_isDigit 0 = .ok (.iload_n 0, 1) := by decide +kernel
theorem dX8_isDigit_1 : decode cX8_isDigit 1 = .ok (.bipush 48, 2) := by decide +kernel
theorem dX8_isDigit_3 : decode cX8_isDigit 3 = .ok (.if_icmp .lt 13, 3) := by decide +kernel
theorem dX8_isDigit_16 : decode cX8_isDigit 16 = .ok (.iconst 0, 1) := by decide +kernel
theorem dX8_isDigit_17 : decode cX8_isDigit 17 = .ok (.ireturn, 1) := by decide +kernel
theorem dX8_isDigit_6 : decode cX8_isDigit 6 = .ok (.iload_n 0, 1) := by decide +kernel
theorem dX8_isDigit_7 : decode cX8_isDigit 7 = .ok (.bipush 57, 2) := by decide +kernel
theorem dX8_isDigit_9 : decode cX8_isDigit 9 = .ok (.if_icmp .gt 7, 3) := by decide +kernel
theorem dX8_isDigit_12 : decode cX8_isDigit 12 = .ok (.iconst 1, 1) := by decide +kernel
theorem dX8_isDigit_13 : decode cX8_isDigit 13 = .ok (.goto 4, 3) := by decide +kernel
theorem dX8_keyAt_0 : decode cX8_keyAt 0 = .ok (.iconst 0, 1) := by decide +kernel
theorem dX8_keyAt_1 : decode cX8_keyAt 1 = .ok (.istore_n 1, 1) := by decide +kernel
theorem dX8_keyAt_2 : decode cX8_keyAt 2 = .ok (.iconst 1, 1) := by decide +kernel
theorem dX8_keyAt_3 : decode cX8_keyAt 3 = .ok (.istore_n 2, 1) := by decide +kernel
theorem dX8_keyAt_4 : decode cX8_keyAt 4 = .ok (.iload_n 2, 1) := by decide +kernel
theorem dX8_keyAt_5 : decode cX8_keyAt 5 = .ok (.ldc 77, 2) := by decide +kernel
theorem dX8_keyAt_7 : decode cX8_keyAt 7 = .ok (.invokevirtual 79, 3) := by decide +kernel
theorem hdn_yJ0_length_8abf5 : HD yJ0_length_8abf5 RJ0 0 := by decide +kernel
theorem mwn_314 : Cond.methodLink RX8 79 yJ0_length_8abf5 ∈ wsL_law := List.mem_of_getElem? (i := 314) (by decide +kernel)
theorem mwn_190 : Cond.instanceMethod yJ0_length_8abf5 ∈ wsL_law := List.mem_of_getElem? (i := 190) (by decide +kernel)
theorem mwn_191 : Cond.selects RJ0 yJ0_length_8abf5 yJ0_length_8abf5 ∈ wsL_law := List.mem_of_getElem? (i := 191) (by decide +kernel)
theorem mwn_192 : Cond.initialized RJ0 ∈ wsL_law := List.mem_of_getElem? (i := 192) (by decide +kernel)
theorem mwn_193 : Cond.code yJ0_length_8abf5 cJ0_length_8abf5 1 (some .int) ∈ wsL_law := List.mem_of_getElem? (i := 193) (by decide +kernel)
theorem dX8_keyAt_10 : decode cX8_keyAt 10 = .ok (.if_icmp .ge 113, 3) := by decide +kernel
theorem dX8_keyAt_123 : decode cX8_keyAt 123 = .ok (.bipush 10, 2) := by decide +kernel
theorem dX8_keyAt_125 : decode cX8_keyAt 125 = .ok (.ireturn, 1) := by decide +kernel
theorem dX8_keyAt_13 : decode cX8_keyAt 13 = .ok (.iconst 0, 1) := by decide +kernel
theorem dX8_keyAt_14 : decode cX8_keyAt 14 = .ok (.istore_n 3, 1) := by decide +kernel
theorem dX8_keyAt_15 : decode cX8_keyAt 15 = .ok (.ldc 77, 2) := by decide +kernel
theorem dX8_keyAt_17 : decode cX8_keyAt 17 = .ok (.iload_n 2, 1) := by decide +kernel
theorem dX8_keyAt_18 : decode cX8_keyAt 18 = .ok (.iload_n 3, 1) := by decide +kernel
theorem dX8_keyAt_19 : decode cX8_keyAt 19 = .ok (.iadd, 1) := by decide +kernel
theorem dX8_keyAt_20 : decode cX8_keyAt 20 = .ok (.invokevirtual 85, 3) := by decide +kernel
theorem hdn_yJ0_charAt_5068e : HD yJ0_charAt_5068e RJ0 1 := by decide +kernel
theorem mwn_315 : Cond.methodLink RX8 85 yJ0_charAt_5068e ∈ wsL_law := List.mem_of_getElem? (i := 315) (by decide +kernel)
theorem mwn_202 : Cond.instanceMethod yJ0_charAt_5068e ∈ wsL_law := List.mem_of_getElem? (i := 202) (by decide +kernel)
theorem mwn_203 : Cond.selects RJ0 yJ0_charAt_5068e yJ0_charAt_5068e ∈ wsL_law := List.mem_of_getElem? (i := 203) (by decide +kernel)
theorem mwn_204 : Cond.code yJ0_charAt_5068e cJ0_charAt_5068e 2 (some .char) ∈ wsL_law := List.mem_of_getElem? (i := 204) (by decide +kernel)
theorem dX8_keyAt_23 : decode cX8_keyAt 23 = .ok (.bipush 32, 2) := by decide +kernel
theorem dX8_keyAt_25 : decode cX8_keyAt 25 = .ok (.if_icmp .eq 44, 3) := by decide +kernel
theorem dX8_keyAt_69 : decode cX8_keyAt 69 = .ok (.ldc 77, 2) := by decide +kernel
theorem dX8_keyAt_71 : decode cX8_keyAt 71 = .ok (.iload_n 2, 1) := by decide +kernel
theorem dX8_keyAt_72 : decode cX8_keyAt 72 = .ok (.iload_n 3, 1) := by decide +kernel
theorem dX8_keyAt_73 : decode cX8_keyAt 73 = .ok (.iadd, 1) := by decide +kernel
theorem dX8_keyAt_74 : decode cX8_keyAt 74 = .ok (.invokevirtual 85, 3) := by decide +kernel
theorem dX8_keyAt_77 : decode cX8_keyAt 77 = .ok (.bipush 32, 2) := by decide +kernel
theorem dX8_keyAt_79 : decode cX8_keyAt 79 = .ok (.if_icmp .ne 18, 3) := by decide +kernel
theorem dX8_keyAt_97 : decode cX8_keyAt 97 = .ok (.ldc 77, 2) := by decide +kernel
theorem dX8_keyAt_99 : decode cX8_keyAt 99 = .ok (.iload_n 2, 1) := by decide +kernel
theorem dX8_keyAt_100 : decode cX8_keyAt 100 = .ok (.invokevirtual 85, 3) := by decide +kernel
theorem dX8_keyAt_103 : decode cX8_keyAt 103 = .ok (.bipush 32, 2) := by decide +kernel
theorem dX8_keyAt_105 : decode cX8_keyAt 105 = .ok (.if_icmp .eq 9, 3) := by decide +kernel
theorem dX8_keyAt_114 : decode cX8_keyAt 114 = .ok (.iinc 2 1, 3) := by decide +kernel
theorem dX8_keyAt_117 : decode cX8_keyAt 117 = .ok (.iinc 1 1, 3) := by decide +kernel
theorem dX8_keyAt_120 : decode cX8_keyAt 120 = .ok (.goto (-116), 3) := by decide +kernel
theorem dX8_keyAt_108 : decode cX8_keyAt 108 = .ok (.iinc 2 1, 3) := by decide +kernel
theorem dX8_keyAt_111 : decode cX8_keyAt 111 = .ok (.goto (-14), 3) := by decide +kernel
theorem dX8_keyAt_82 : decode cX8_keyAt 82 = .ok (.aload_n 0, 1) := by decide +kernel
theorem dX8_keyAt_83 : decode cX8_keyAt 83 = .ok (.getfield 89, 3) := by decide +kernel
theorem mwn_301 : Cond.fieldLink RX8 89 "ThatchNextModel" "at" "I" ∈ wsL_law := List.mem_of_getElem? (i := 301) (by decide +kernel)
theorem dX8_keyAt_86 : decode cX8_keyAt 86 = .ok (.iload_n 3, 1) := by decide +kernel
theorem dX8_keyAt_87 : decode cX8_keyAt 87 = .ok (.iadd, 1) := by decide +kernel
theorem dX8_keyAt_88 : decode cX8_keyAt 88 = .ok (.aload_n 0, 1) := by decide +kernel
theorem dX8_keyAt_89 : decode cX8_keyAt 89 = .ok (.getfield 92, 3) := by decide +kernel
theorem mwn_288 : Cond.fieldLink RX8 92 "ThatchNextModel" "behind" "I" ∈ wsL_law := List.mem_of_getElem? (i := 288) (by decide +kernel)
theorem dX8_keyAt_92 : decode cX8_keyAt 92 = .ok (.if_icmp .ne 5, 3) := by decide +kernel
theorem dX8_keyAt_95 : decode cX8_keyAt 95 = .ok (.iload_n 1, 1) := by decide +kernel
theorem dX8_keyAt_96 : decode cX8_keyAt 96 = .ok (.ireturn, 1) := by decide +kernel
theorem dX8_keyAt_28 : decode cX8_keyAt 28 = .ok (.aload_n 0, 1) := by decide +kernel
theorem dX8_keyAt_29 : decode cX8_keyAt 29 = .ok (.getfield 89, 3) := by decide +kernel
theorem dX8_keyAt_32 : decode cX8_keyAt 32 = .ok (.iload_n 3, 1) := by decide +kernel
theorem dX8_keyAt_33 : decode cX8_keyAt 33 = .ok (.iadd, 1) := by decide +kernel
theorem dX8_keyAt_34 : decode cX8_keyAt 34 = .ok (.aload_n 0, 1) := by decide +kernel
theorem dX8_keyAt_35 : decode cX8_keyAt 35 = .ok (.getfield 92, 3) := by decide +kernel
theorem dX8_keyAt_38 : decode cX8_keyAt 38 = .ok (.if_icmp .ge 31, 3) := by decide +kernel
theorem dX8_keyAt_41 : decode cX8_keyAt 41 = .ok (.aload_n 0, 1) := by decide +kernel
theorem dX8_keyAt_42 : decode cX8_keyAt 42 = .ok (.getfield 24, 3) := by decide +kernel
theorem dX8_keyAt_45 : decode cX8_keyAt 45 = .ok (.aload_n 0, 1) := by decide +kernel
theorem dX8_keyAt_46 : decode cX8_keyAt 46 = .ok (.getfield 89, 3) := by decide +kernel
theorem dX8_keyAt_49 : decode cX8_keyAt 49 = .ok (.iload_n 3, 1) := by decide +kernel
theorem dX8_keyAt_50 : decode cX8_keyAt 50 = .ok (.iadd, 1) := by decide +kernel
theorem dX8_keyAt_51 : decode cX8_keyAt 51 = .ok (.iaload, 1) := by decide +kernel
theorem dX8_keyAt_52 : decode cX8_keyAt 52 = .ok (.ldc 77, 2) := by decide +kernel
theorem dX8_keyAt_54 : decode cX8_keyAt 54 = .ok (.iload_n 2, 1) := by decide +kernel
theorem dX8_keyAt_55 : decode cX8_keyAt 55 = .ok (.iload_n 3, 1) := by decide +kernel
theorem dX8_keyAt_56 : decode cX8_keyAt 56 = .ok (.iadd, 1) := by decide +kernel
theorem dX8_keyAt_57 : decode cX8_keyAt 57 = .ok (.invokevirtual 85, 3) := by decide +kernel
theorem dX8_keyAt_60 : decode cX8_keyAt 60 = .ok (.if_icmp .ne 9, 3) := by decide +kernel
theorem dX8_keyAt_63 : decode cX8_keyAt 63 = .ok (.iinc 3 1, 3) := by decide +kernel
theorem dX8_keyAt_66 : decode cX8_keyAt 66 = .ok (.goto (-51), 3) := by decide +kernel
theorem dX8_nextToken_0 : decode cX8_nextToken 0 = .ok (.aload_n 0, 1) := by decide +kernel
theorem dX8_nextToken_1 : decode cX8_nextToken 1 = .ok (.aload_n 0, 1) := by decide +kernel
theorem dX8_nextToken_2 : decode cX8_nextToken 2 = .ok (.getfield 92, 3) := by decide +kernel
theorem dX8_nextToken_5 : decode cX8_nextToken 5 = .ok (.putfield 89, 3) := by decide +kernel
theorem dX8_nextToken_8 : decode cX8_nextToken 8 = .ok (.aload_n 0, 1) := by decide +kernel
theorem dX8_nextToken_9 : decode cX8_nextToken 9 = .ok (.aload_n 0, 1) := by decide +kernel
theorem dX8_nextToken_10 : decode cX8_nextToken 10 = .ok (.getfield 89, 3) := by decide +kernel
theorem dX8_nextToken_13 : decode cX8_nextToken 13 = .ok (.invokevirtual 95, 3) := by decide +kernel
theorem hdn_yX8_see : HD yX8_see RX8 1 := by decide +kernel
theorem mwn_303 : Cond.methodLink RX8 95 yX8_see ∈ wsL_law := List.mem_of_getElem? (i := 303) (by decide +kernel)
theorem mwn_304 : Cond.instanceMethod yX8_see ∈ wsL_law := List.mem_of_getElem? (i := 304) (by decide +kernel)
theorem mwn_305 : Cond.selects RX8 yX8_see yX8_see ∈ wsL_law := List.mem_of_getElem? (i := 305) (by decide +kernel)
theorem mwn_5 : Cond.initialized RX8 ∈ wsL_law := List.mem_of_getElem? (i := 5) (by decide +kernel)
theorem mwn_306 : Cond.code yX8_see cX8_see 2 (some .int) ∈ wsL_law := List.mem_of_getElem? (i := 306) (by decide +kernel)
theorem dX8_nextToken_16 : decode cX8_nextToken 16 = .ok (.bipush 10, 2) := by decide +kernel
theorem dX8_nextToken_18 : decode cX8_nextToken 18 = .ok (.if_icmp .eq 16, 3) := by decide +kernel
theorem dX8_nextToken_34 : decode cX8_nextToken 34 = .ok (.aload_n 0, 1) := by decide +kernel
theorem dX8_nextToken_35 : decode cX8_nextToken 35 = .ok (.dup, 1) := by decide +kernel
theorem dX8_nextToken_36 : decode cX8_nextToken 36 = .ok (.getfield 89, 3) := by decide +kernel
theorem dX8_nextToken_39 : decode cX8_nextToken 39 = .ok (.iconst 1, 1) := by decide +kernel
theorem dX8_nextToken_40 : decode cX8_nextToken 40 = .ok (.iadd, 1) := by decide +kernel
theorem dX8_nextToken_41 : decode cX8_nextToken 41 = .ok (.putfield 89, 3) := by decide +kernel
theorem dX8_nextToken_44 : decode cX8_nextToken 44 = .ok (.goto (-36), 3) := by decide +kernel
theorem dX8_nextToken_21 : decode cX8_nextToken 21 = .ok (.aload_n 0, 1) := by decide +kernel
theorem dX8_nextToken_22 : decode cX8_nextToken 22 = .ok (.aload_n 0, 1) := by decide +kernel
theorem dX8_nextToken_23 : decode cX8_nextToken 23 = .ok (.getfield 89, 3) := by decide +kernel
theorem dX8_nextToken_26 : decode cX8_nextToken 26 = .ok (.invokevirtual 95, 3) := by decide +kernel
theorem dX8_nextToken_29 : decode cX8_nextToken 29 = .ok (.bipush 32, 2) := by decide +kernel
theorem dX8_nextToken_31 : decode cX8_nextToken 31 = .ok (.if_icmp .ne 16, 3) := by decide +kernel
theorem dX8_nextToken_47 : decode cX8_nextToken 47 = .ok (.aload_n 0, 1) := by decide +kernel
theorem dX8_nextToken_48 : decode cX8_nextToken 48 = .ok (.aload_n 0, 1) := by decide +kernel
theorem dX8_nextToken_49 : decode cX8_nextToken 49 = .ok (.getfield 89, 3) := by decide +kernel
theorem dX8_nextToken_52 : decode cX8_nextToken 52 = .ok (.putfield 92, 3) := by decide +kernel
theorem dX8_nextToken_55 : decode cX8_nextToken 55 = .ok (.aload_n 0, 1) := by decide +kernel
theorem dX8_nextToken_56 : decode cX8_nextToken 56 = .ok (.getfield 89, 3) := by decide +kernel
theorem dX8_nextToken_59 : decode cX8_nextToken 59 = .ok (.aload_n 0, 1) := by decide +kernel
theorem dX8_nextToken_60 : decode cX8_nextToken 60 = .ok (.getfield 74, 3) := by decide +kernel
theorem dX8_nextToken_63 : decode cX8_nextToken 63 = .ok (.if_icmp .lt 12, 3) := by decide +kernel
theorem dX8_nextToken_75 : decode cX8_nextToken 75 = .ok (.aload_n 0, 1) := by decide +kernel
theorem dX8_nextToken_76 : decode cX8_nextToken 76 = .ok (.aload_n 0, 1) := by decide +kernel
theorem dX8_nextToken_77 : decode cX8_nextToken 77 = .ok (.getfield 89, 3) := by decide +kernel
theorem dX8_nextToken_80 : decode cX8_nextToken 80 = .ok (.invokevirtual 95, 3) := by decide +kernel
theorem dX8_nextToken_83 : decode cX8_nextToken 83 = .ok (.invokestatic 102, 3) := by decide +kernel
theorem hdn_yX8_isSmall : HD yX8_isSmall RX8 1 := by decide +kernel
theorem mwn_307 : Cond.methodLink RX8 102 yX8_isSmall ∈ wsL_law := List.mem_of_getElem? (i := 307) (by decide +kernel)
theorem mwn_308 : Cond.static yX8_isSmall ∈ wsL_law := List.mem_of_getElem? (i := 308) (by decide +kernel)
theorem mwn_309 : Cond.code yX8_isSmall cX8_isSmall 1 (some .boolean) ∈ wsL_law := List.mem_of_getElem? (i := 309) (by decide +kernel)
theorem dX8_nextToken_86 : decode cX8_nextToken 86 = .ok (.ifCond .eq 41, 3) := by decide +kernel
theorem dX8_nextToken_127 : decode cX8_nextToken 127 = .ok (.aload_n 0, 1) := by decide +kernel
theorem dX8_nextToken_128 : decode cX8_nextToken 128 = .ok (.aload_n 0, 1) := by decide +kernel
theorem dX8_nextToken_129 : decode cX8_nextToken 129 = .ok (.getfield 89, 3) := by decide +kernel
theorem dX8_nextToken_132 : decode cX8_nextToken 132 = .ok (.invokevirtual 95, 3) := by decide +kernel
theorem dX8_nextToken_135 : decode cX8_nextToken 135 = .ok (.invokestatic 109, 3) := by decide +kernel
theorem hdn_yX8_isDigit : HD yX8_isDigit RX8 1 := by decide +kernel
theorem mwn_316 : Cond.methodLink RX8 109 yX8_isDigit ∈ wsL_law := List.mem_of_getElem? (i := 316) (by decide +kernel)
theorem mwn_317 : Cond.static yX8_isDigit ∈ wsL_law := List.mem_of_getElem? (i := 317) (by decide +kernel)
theorem mwn_318 : Cond.code yX8_isDigit cX8_isDigit 1 (some .boolean) ∈ wsL_law := List.mem_of_getElem? (i := 318) (by decide +kernel)
theorem dX8_nextToken_138 : decode cX8_nextToken 138 = .ok (.ifCond .eq 98, 3) := by decide +kernel
theorem dX8_nextToken_236 : decode cX8_nextToken 236 = .ok (.aload_n 0, 1) := by decide +kernel
theorem dX8_nextToken_237 : decode cX8_nextToken 237 = .ok (.dup, 1) := by decide +kernel
theorem dX8_nextToken_238 : decode cX8_nextToken 238 = .ok (.getfield 92, 3) := by decide +kernel
theorem dX8_nextToken_241 : decode cX8_nextToken 241 = .ok (.iconst 1, 1) := by decide +kernel
theorem dX8_nextToken_242 : decode cX8_nextToken 242 = .ok (.iadd, 1) := by decide +kernel
theorem dX8_nextToken_243 : decode cX8_nextToken 243 = .ok (.putfield 92, 3) := by decide +kernel
theorem dX8_nextToken_246 : decode cX8_nextToken 246 = .ok (.aload_n 0, 1) := by decide +kernel
theorem dX8_nextToken_247 : decode cX8_nextToken 247 = .ok (.aload_n 0, 1) := by decide +kernel
theorem dX8_nextToken_248 : decode cX8_nextToken 248 = .ok (.aload_n 0, 1) := by decide +kernel
theorem dX8_nextToken_249 : decode cX8_nextToken 249 = .ok (.getfield 89, 3) := by decide +kernel
theorem dX8_nextToken_252 : decode cX8_nextToken 252 = .ok (.invokevirtual 95, 3) := by decide +kernel
theorem dX8_nextToken_255 : decode cX8_nextToken 255 = .ok (.bipush 59, 2) := by decide +kernel
theorem dX8_nextToken_257 : decode cX8_nextToken 257 = .ok (.if_icmp .ne 8, 3) := by decide +kernel
theorem dX8_nextToken_265 : decode cX8_nextToken 265 = .ok (.bipush 14, 2) := by decide +kernel
theorem dX8_nextToken_267 : decode cX8_nextToken 267 = .ok (.putfield 99, 3) := by decide +kernel
theorem mwn_290 : Cond.fieldLink RX8 99 "ThatchNextModel" "kind" "I" ∈ wsL_law := List.mem_of_getElem? (i := 290) (by decide +kernel)
theorem dX8_nextToken_270 : decode cX8_nextToken 270 = .ok (.return_, 1) := by decide +kernel
theorem dX8_nextToken_260 : decode cX8_nextToken 260 = .ok (.bipush 12, 2) := by decide +kernel
theorem dX8_nextToken_262 : decode cX8_nextToken 262 = .ok (.goto 5, 3) := by decide +kernel
theorem dX8_nextToken_141 : decode cX8_nextToken 141 = .ok (.aload_n 0, 1) := by decide +kernel
theorem dX8_nextToken_142 : decode cX8_nextToken 142 = .ok (.iconst 0, 1) := by decide +kernel
theorem dX8_nextToken_143 : decode cX8_nextToken 143 = .ok (.putfield 112, 3) := by decide +kernel
theorem mwn_302 : Cond.fieldLink RX8 112 "ThatchNextModel" "number" "I" ∈ wsL_law := List.mem_of_getElem? (i := 302) (by decide +kernel)
theorem dX8_nextToken_146 : decode cX8_nextToken 146 = .ok (.aload_n 0, 1) := by decide +kernel
theorem dX8_nextToken_147 : decode cX8_nextToken 147 = .ok (.aload_n 0, 1) := by decide +kernel
theorem dX8_nextToken_148 : decode cX8_nextToken 148 = .ok (.getfield 92, 3) := by decide +kernel
theorem dX8_nextToken_151 : decode cX8_nextToken 151 = .ok (.invokevirtual 95, 3) := by decide +kernel
theorem dX8_nextToken_154 : decode cX8_nextToken 154 = .ok (.invokestatic 109, 3) := by decide +kernel
theorem dX8_nextToken_157 : decode cX8_nextToken 157 = .ok (.ifCond .eq 52, 3) := by decide +kernel
theorem dX8_nextToken_209 : decode cX8_nextToken 209 = .ok (.aload_n 0, 1) := by decide +kernel
theorem dX8_nextToken_210 : decode cX8_nextToken 210 = .ok (.aload_n 0, 1) := by decide +kernel
theorem dX8_nextToken_211 : decode cX8_nextToken 211 = .ok (.getfield 92, 3) := by decide +kernel
theorem dX8_nextToken_214 : decode cX8_nextToken 214 = .ok (.aload_n 0, 1) := by decide +kernel
theorem dX8_nextToken_215 : decode cX8_nextToken 215 = .ok (.getfield 89, 3) := by decide +kernel
theorem dX8_nextToken_218 : decode cX8_nextToken 218 = .ok (.isub, 1) := by decide +kernel
theorem dX8_nextToken_219 : decode cX8_nextToken 219 = .ok (.iconst 3, 1) := by decide +kernel
theorem dX8_nextToken_220 : decode cX8_nextToken 220 = .ok (.if_icmp .le 8, 3) := by decide +kernel
theorem dX8_nextToken_228 : decode cX8_nextToken 228 = .ok (.bipush 11, 2) := by decide +kernel
theorem dX8_nextToken_230 : decode cX8_nextToken 230 = .ok (.putfield 99, 3) := by decide +kernel
theorem dX8_nextToken_233 : decode cX8_nextToken 233 = .ok (.goto 37, 3) := by decide +kernel
theorem dX8_nextToken_223 : decode cX8_nextToken 223 = .ok (.bipush 14, 2) := by decide +kernel
theorem dX8_nextToken_225 : decode cX8_nextToken 225 = .ok (.goto 5, 3) := by decide +kernel
theorem dX8_nextToken_160 : decode cX8_nextToken 160 = .ok (.aload_n 0, 1) := by decide +kernel
theorem dX8_nextToken_161 : decode cX8_nextToken 161 = .ok (.getfield 92, 3) := by decide +kernel
theorem dX8_nextToken_164 : decode cX8_nextToken 164 = .ok (.aload_n 0, 1) := by decide +kernel
theorem dX8_nextToken_165 : decode cX8_nextToken 165 = .ok (.getfield 89, 3) := by decide +kernel
theorem dX8_nextToken_168 : decode cX8_nextToken 168 = .ok (.isub, 1) := by decide +kernel
theorem dX8_nextToken_169 : decode cX8_nextToken 169 = .ok (.iconst 3, 1) := by decide +kernel
theorem dX8_nextToken_170 : decode cX8_nextToken 170 = .ok (.if_icmp .ge 26, 3) := by decide +kernel
theorem dX8_nextToken_196 : decode cX8_nextToken 196 = .ok (.aload_n 0, 1) := by decide +kernel
theorem dX8_nextToken_197 : decode cX8_nextToken 197 = .ok (.dup, 1) := by decide +kernel
theorem dX8_nextToken_198 : decode cX8_nextToken 198 = .ok (.getfield 92, 3) := by decide +kernel
theorem dX8_nextToken_201 : decode cX8_nextToken 201 = .ok (.iconst 1, 1) := by decide +kernel
theorem dX8_nextToken_202 : decode cX8_nextToken 202 = .ok (.iadd, 1) := by decide +kernel
theorem dX8_nextToken_203 : decode cX8_nextToken 203 = .ok (.putfield 92, 3) := by decide +kernel
theorem dX8_nextToken_206 : decode cX8_nextToken 206 = .ok (.goto (-60), 3) := by decide +kernel
theorem dX8_nextToken_173 : decode cX8_nextToken 173 = .ok (.aload_n 0, 1) := by decide +kernel
theorem dX8_nextToken_174 : decode cX8_nextToken 174 = .ok (.bipush 10, 2) := by decide +kernel
theorem dX8_nextToken_176 : decode cX8_nextToken 176 = .ok (.aload_n 0, 1) := by decide +kernel
theorem dX8_nextToken_177 : decode cX8_nextToken 177 = .ok (.getfield 112, 3) := by decide +kernel
theorem dX8_nextToken_180 : decode cX8_nextToken 180 = .ok (.imul, 1) := by decide +kernel
theorem dX8_nextToken_181 : decode cX8_nextToken 181 = .ok (.aload_n 0, 1) := by decide +kernel
theorem dX8_nextToken_182 : decode cX8_nextToken 182 = .ok (.aload_n 0, 1) := by decide +kernel
theorem dX8_nextToken_183 : decode cX8_nextToken 183 = .ok (.getfield 92, 3) := by decide +kernel
theorem dX8_nextToken_186 : decode cX8_nextToken 186 = .ok (.invokevirtual 95, 3) := by decide +kernel
theorem dX8_nextToken_189 : decode cX8_nextToken 189 = .ok (.iadd, 1) := by decide +kernel
theorem dX8_nextToken_190 : decode cX8_nextToken 190 = .ok (.bipush 48, 2) := by decide +kernel
theorem dX8_nextToken_192 : decode cX8_nextToken 192 = .ok (.isub, 1) := by decide +kernel
theorem dX8_nextToken_193 : decode cX8_nextToken 193 = .ok (.putfield 112, 3) := by decide +kernel
theorem dX8_nextToken_89 : decode cX8_nextToken 89 = .ok (.aload_n 0, 1) := by decide +kernel
theorem dX8_nextToken_90 : decode cX8_nextToken 90 = .ok (.aload_n 0, 1) := by decide +kernel
theorem dX8_nextToken_91 : decode cX8_nextToken 91 = .ok (.getfield 92, 3) := by decide +kernel
theorem dX8_nextToken_94 : decode cX8_nextToken 94 = .ok (.invokevirtual 95, 3) := by decide +kernel
theorem dX8_nextToken_97 : decode cX8_nextToken 97 = .ok (.invokestatic 102, 3) := by decide +kernel
theorem dX8_nextToken_100 : decode cX8_nextToken 100 = .ok (.ifCond .eq 16, 3) := by decide +kernel
theorem dX8_nextToken_116 : decode cX8_nextToken 116 = .ok (.aload_n 0, 1) := by decide +kernel
theorem dX8_nextToken_117 : decode cX8_nextToken 117 = .ok (.aload_n 0, 1) := by decide +kernel
theorem dX8_nextToken_118 : decode cX8_nextToken 118 = .ok (.invokevirtual 106, 3) := by decide +kernel
theorem hdn_yX8_keyAt : HD yX8_keyAt RX8 0 := by decide +kernel
theorem mwn_310 : Cond.methodLink RX8 106 yX8_keyAt ∈ wsL_law := List.mem_of_getElem? (i := 310) (by decide +kernel)
theorem mwn_311 : Cond.instanceMethod yX8_keyAt ∈ wsL_law := List.mem_of_getElem? (i := 311) (by decide +kernel)
theorem mwn_312 : Cond.selects RX8 yX8_keyAt yX8_keyAt ∈ wsL_law := List.mem_of_getElem? (i := 312) (by decide +kernel)
theorem mwn_313 : Cond.code yX8_keyAt cX8_keyAt 4 (some .int) ∈ wsL_law := List.mem_of_getElem? (i := 313) (by decide +kernel)
theorem dX8_nextToken_121 : decode cX8_nextToken 121 = .ok (.putfield 99, 3) := by decide +kernel
theorem dX8_nextToken_124 : decode cX8_nextToken 124 = .ok (.goto 146, 3) := by decide +kernel
theorem dX8_nextToken_103 : decode cX8_nextToken 103 = .ok (.aload_n 0, 1) := by decide +kernel
theorem dX8_nextToken_104 : decode cX8_nextToken 104 = .ok (.dup, 1) := by decide +kernel
theorem dX8_nextToken_105 : decode cX8_nextToken 105 = .ok (.getfield 92, 3) := by decide +kernel
theorem dX8_nextToken_108 : decode cX8_nextToken 108 = .ok (.iconst 1, 1) := by decide +kernel
theorem dX8_nextToken_109 : decode cX8_nextToken 109 = .ok (.iadd, 1) := by decide +kernel
theorem dX8_nextToken_110 : decode cX8_nextToken 110 = .ok (.putfield 92, 3) := by decide +kernel
theorem dX8_nextToken_113 : decode cX8_nextToken 113 = .ok (.goto (-24), 3) := by decide +kernel
theorem dX8_nextToken_66 : decode cX8_nextToken 66 = .ok (.aload_n 0, 1) := by decide +kernel
theorem dX8_nextToken_67 : decode cX8_nextToken 67 = .ok (.bipush 13, 2) := by decide +kernel
theorem dX8_nextToken_69 : decode cX8_nextToken 69 = .ok (.putfield 99, 3) := by decide +kernel
theorem dX8_nextToken_72 : decode cX8_nextToken 72 = .ok (.goto 198, 3) := by decide +kernel
theorem dX8_fails_0 : decode cX8_fails 0 = .ok (.aload_n 0, 1) := by decide +kernel
theorem dX8_fails_1 : decode cX8_fails 1 = .ok (.getfield 115, 3) := by decide +kernel
theorem mwn_289 : Cond.fieldLink RX8 115 "ThatchNextModel" "wrong" "I" ∈ wsL_law := List.mem_of_getElem? (i := 289) (by decide +kernel)
theorem dX8_fails_4 : decode cX8_fails 4 = .ok (.ifCond .eq 4, 3) := by decide +kernel
theorem dX8_fails_8 : decode cX8_fails 8 = .ok (.aload_n 0, 1) := by decide +kernel
theorem dX8_fails_9 : decode cX8_fails 9 = .ok (.aload_n 0, 1) := by decide +kernel
theorem dX8_fails_10 : decode cX8_fails 10 = .ok (.getfield 99, 3) := by decide +kernel
theorem dX8_fails_13 : decode cX8_fails 13 = .ok (.bipush 14, 2) := by decide +kernel
theorem dX8_fails_15 : decode cX8_fails 15 = .ok (.if_icmp .ne 7, 3) := by decide +kernel
theorem dX8_fails_22 : decode cX8_fails 22 = .ok (.iload_n 1, 1) := by decide +kernel
theorem dX8_fails_23 : decode cX8_fails 23 = .ok (.putfield 115, 3) := by decide +kernel
theorem dX8_fails_26 : decode cX8_fails 26 = .ok (.aload_n 0, 1) := by decide +kernel
theorem dX8_fails_27 : decode cX8_fails 27 = .ok (.aload_n 0, 1) := by decide +kernel
theorem dX8_fails_28 : decode cX8_fails 28 = .ok (.getfield 89, 3) := by decide +kernel
theorem dX8_fails_31 : decode cX8_fails 31 = .ok (.putfield 118, 3) := by decide +kernel
theorem mwn_292 : Cond.fieldLink RX8 118 "ThatchNextModel" "wrongAt" "I" ∈ wsL_law := List.mem_of_getElem? (i := 292) (by decide +kernel)
theorem dX8_fails_34 : decode cX8_fails 34 = .ok (.return_, 1) := by decide +kernel
theorem dX8_fails_18 : decode cX8_fails 18 = .ok (.iconst 1, 1) := by decide +kernel
theorem dX8_fails_19 : decode cX8_fails 19 = .ok (.goto 4, 3) := by decide +kernel
theorem dX8_fails_7 : decode cX8_fails 7 = .ok (.return_, 1) := by decide +kernel
theorem dX8_is_0 : decode cX8_is 0 = .ok (.aload_n 0, 1) := by decide +kernel
theorem dX8_is_1 : decode cX8_is 1 = .ok (.getfield 115, 3) := by decide +kernel
theorem dX8_is_4 : decode cX8_is 4 = .ok (.ifCond .ne 15, 3) := by decide +kernel
theorem dX8_is_19 : decode cX8_is 19 = .ok (.iconst 0, 1) := by decide +kernel
theorem dX8_is_20 : decode cX8_is 20 = .ok (.ireturn, 1) := by decide +kernel
theorem dX8_is_7 : decode cX8_is 7 = .ok (.aload_n 0, 1) := by decide +kernel
theorem dX8_is_8 : decode cX8_is 8 = .ok (.getfield 99, 3) := by decide +kernel
theorem dX8_is_11 : decode cX8_is 11 = .ok (.iload_n 1, 1) := by decide +kernel
theorem dX8_is_12 : decode cX8_is 12 = .ok (.if_icmp .ne 7, 3) := by decide +kernel
theorem dX8_is_15 : decode cX8_is 15 = .ok (.iconst 1, 1) := by decide +kernel
theorem dX8_is_16 : decode cX8_is 16 = .ok (.goto 4, 3) := by decide +kernel
theorem dX8_eats_0 : decode cX8_eats 0 = .ok (.aload_n 0, 1) := by decide +kernel
theorem dX8_eats_1 : decode cX8_eats 1 = .ok (.iload_n 1, 1) := by decide +kernel
theorem dX8_eats_2 : decode cX8_eats 2 = .ok (.invokevirtual 121, 3) := by decide +kernel
theorem hdn_yX8_is : HD yX8_is RX8 1 := by decide +kernel
theorem mwn_323 : Cond.methodLink RX8 121 yX8_is ∈ wsL_law := List.mem_of_getElem? (i := 323) (by decide +kernel)
theorem mwn_324 : Cond.instanceMethod yX8_is ∈ wsL_law := List.mem_of_getElem? (i := 324) (by decide +kernel)
theorem mwn_325 : Cond.selects RX8 yX8_is yX8_is ∈ wsL_law := List.mem_of_getElem? (i := 325) (by decide +kernel)
theorem mwn_326 : Cond.code yX8_is cX8_is 2 (some .boolean) ∈ wsL_law := List.mem_of_getElem? (i := 326) (by decide +kernel)
theorem dX8_eats_5 : decode cX8_eats 5 = .ok (.ifCond .ne 5, 3) := by decide +kernel
theorem dX8_eats_10 : decode cX8_eats 10 = .ok (.aload_n 0, 1) := by decide +kernel
theorem dX8_eats_11 : decode cX8_eats 11 = .ok (.invokevirtual 124, 3) := by decide +kernel
theorem hdn_yX8_nextToken : HD yX8_nextToken RX8 0 := by decide +kernel
theorem mwn_297 : Cond.methodLink RX8 124 yX8_nextToken ∈ wsL_law := List.mem_of_getElem? (i := 297) (by decide +kernel)
theorem mwn_298 : Cond.instanceMethod yX8_nextToken ∈ wsL_law := List.mem_of_getElem? (i := 298) (by decide +kernel)
theorem mwn_299 : Cond.selects RX8 yX8_nextToken yX8_nextToken ∈ wsL_law := List.mem_of_getElem? (i := 299) (by decide +kernel)
theorem mwn_300 : Cond.code yX8_nextToken cX8_nextToken 1 none ∈ wsL_law := List.mem_of_getElem? (i := 300) (by decide +kernel)
theorem dX8_eats_14 : decode cX8_eats 14 = .ok (.iconst 1, 1) := by decide +kernel
theorem dX8_eats_15 : decode cX8_eats 15 = .ok (.ireturn, 1) := by decide +kernel
theorem dX8_eats_8 : decode cX8_eats 8 = .ok (.iconst 0, 1) := by decide +kernel
theorem dX8_eats_9 : decode cX8_eats 9 = .ok (.ireturn, 1) := by decide +kernel
theorem dX8_takes_0 : decode cX8_takes 0 = .ok (.aload_n 0, 1) := by decide +kernel
theorem dX8_takes_1 : decode cX8_takes 1 = .ok (.bipush 11, 2) := by decide +kernel
theorem dX8_takes_3 : decode cX8_takes 3 = .ok (.invokevirtual 121, 3) := by decide +kernel
theorem dX8_takes_6 : decode cX8_takes 6 = .ok (.ifCond .ne 11, 3) := by decide +kernel
theorem dX8_takes_17 : decode cX8_takes 17 = .ok (.aload_n 0, 1) := by decide +kernel
theorem dX8_takes_18 : decode cX8_takes 18 = .ok (.getfield 112, 3) := by decide +kernel
theorem dX8_takes_21 : decode cX8_takes 21 = .ok (.i2l, 1) := by decide +kernel
theorem dX8_takes_22 : decode cX8_takes 22 = .ok (.iload_n 1, 1) := by decide +kernel
theorem dX8_takes_23 : decode cX8_takes 23 = .ok (.i2l, 1) := by decide +kernel
theorem dX8_takes_24 : decode cX8_takes 24 = .ok (.iload_n 2, 1) := by decide +kernel
theorem dX8_takes_25 : decode cX8_takes 25 = .ok (.i2l, 1) := by decide +kernel
theorem dX8_takes_26 : decode cX8_takes 26 = .ok (.invokestatic 131, 3) := by decide +kernel
theorem hdn_yX8_within : HD yX8_within RX8 3 := by decide +kernel
theorem mwn_294 : Cond.methodLink RX8 131 yX8_within ∈ wsL_law := List.mem_of_getElem? (i := 294) (by decide +kernel)
theorem mwn_295 : Cond.static yX8_within ∈ wsL_law := List.mem_of_getElem? (i := 295) (by decide +kernel)
theorem mwn_296 : Cond.code yX8_within cX8_within 6 (some .boolean) ∈ wsL_law := List.mem_of_getElem? (i := 296) (by decide +kernel)
theorem dX8_takes_29 : decode cX8_takes 29 = .ok (.ifCond .ne 8, 3) := by decide +kernel
theorem dX8_takes_37 : decode cX8_takes 37 = .ok (.aload_n 0, 1) := by decide +kernel
theorem dX8_takes_38 : decode cX8_takes 38 = .ok (.getfield 112, 3) := by decide +kernel
theorem dX8_takes_41 : decode cX8_takes 41 = .ok (.istore_n 3, 1) := by decide +kernel
theorem dX8_takes_42 : decode cX8_takes 42 = .ok (.aload_n 0, 1) := by decide +kernel
theorem dX8_takes_43 : decode cX8_takes 43 = .ok (.getfield 115, 3) := by decide +kernel
theorem dX8_takes_46 : decode cX8_takes 46 = .ok (.ifCond .ne 7, 3) := by decide +kernel
theorem dX8_takes_53 : decode cX8_takes 53 = .ok (.iload_n 3, 1) := by decide +kernel
theorem dX8_takes_54 : decode cX8_takes 54 = .ok (.ireturn, 1) := by decide +kernel
theorem dX8_takes_49 : decode cX8_takes 49 = .ok (.aload_n 0, 1) := by decide +kernel
theorem dX8_takes_50 : decode cX8_takes 50 = .ok (.invokevirtual 124, 3) := by decide +kernel
theorem dX8_takes_32 : decode cX8_takes 32 = .ok (.aload_n 0, 1) := by decide +kernel
theorem dX8_takes_33 : decode cX8_takes 33 = .ok (.iconst 3, 1) := by decide +kernel
theorem dX8_takes_34 : decode cX8_takes 34 = .ok (.invokevirtual 127, 3) := by decide +kernel
theorem hdn_yX8_fails : HD yX8_fails RX8 1 := by decide +kernel
theorem mwn_331 : Cond.methodLink RX8 127 yX8_fails ∈ wsL_law := List.mem_of_getElem? (i := 331) (by decide +kernel)
theorem mwn_332 : Cond.instanceMethod yX8_fails ∈ wsL_law := List.mem_of_getElem? (i := 332) (by decide +kernel)
theorem mwn_333 : Cond.selects RX8 yX8_fails yX8_fails ∈ wsL_law := List.mem_of_getElem? (i := 333) (by decide +kernel)
theorem mwn_334 : Cond.code yX8_fails cX8_fails 2 none ∈ wsL_law := List.mem_of_getElem? (i := 334) (by decide +kernel)
theorem dX8_takes_9 : decode cX8_takes 9 = .ok (.aload_n 0, 1) := by decide +kernel
theorem dX8_takes_10 : decode cX8_takes 10 = .ok (.iconst 2, 1) := by decide +kernel
theorem dX8_takes_11 : decode cX8_takes 11 = .ok (.invokevirtual 127, 3) := by decide +kernel
theorem dX8_takes_14 : decode cX8_takes 14 = .ok (.goto 23, 3) := by decide +kernel
theorem dX8_readLayer_0 : decode cX8_readLayer 0 = .ok (.iload_n 2, 1) := by decide +kernel
theorem dX8_readLayer_1 : decode cX8_readLayer 1 = .ok (.aload_n 0, 1) := by decide +kernel
theorem dX8_readLayer_2 : decode cX8_readLayer 2 = .ok (.getfield 27, 3) := by decide +kernel
theorem mwn_95 : Cond.fieldLink RX8 27 "ThatchNextModel" "fresh" "[I" ∈ wsL_law := List.mem_of_getElem? (i := 95) (by decide +kernel)
theorem dX8_readLayer_5 : decode cX8_readLayer 5 = .ok (.iconst 2, 1) := by decide +kernel
theorem dX8_readLayer_6 : decode cX8_readLayer 6 = .ok (.iaload, 1) := by decide +kernel
theorem dX8_readLayer_7 : decode cX8_readLayer 7 = .ok (.if_icmp .ne 8, 3) := by decide +kernel
theorem dX8_readLayer_15 : decode cX8_readLayer 15 = .ok (.aload_n 0, 1) := by decide +kernel
theorem dX8_readLayer_16 : decode cX8_readLayer 16 = .ok (.getfield 115, 3) := by decide +kernel
theorem dX8_readLayer_19 : decode cX8_readLayer 19 = .ok (.ifCond .eq 4, 3) := by decide +kernel
theorem dX8_readLayer_36 : decode cX8_readLayer 36 = .ok (.istore_n 3, 1) := by decide +kernel
theorem dX8_readLayer_37 : decode cX8_readLayer 37 = .ok (.aload_n 0, 1) := by decide +kernel
theorem dX8_readLayer_38 : decode cX8_readLayer 38 = .ok (.invokevirtual 124, 3) := by decide +kernel
theorem dX8_readLayer_41 : decode cX8_readLayer 41 = .ok (.aload_n 0, 1) := by decide +kernel
theorem dX8_readLayer_42 : decode cX8_readLayer 42 = .ok (.iconst 0, 1) := by decide +kernel
theorem dX8_readLayer_43 : decode cX8_readLayer 43 = .ok (.bipush 99, 2) := by decide +kernel
theorem dX8_readLayer_45 : decode cX8_readLayer 45 = .ok (.invokevirtual 135, 3) := by decide +kernel
theorem hdn_yX8_takes : HD yX8_takes RX8 2 := by decide +kernel
theorem mwn_339 : Cond.methodLink RX8 135 yX8_takes ∈ wsL_law := List.mem_of_getElem? (i := 339) (by decide +kernel)
theorem mwn_340 : Cond.instanceMethod yX8_takes ∈ wsL_law := List.mem_of_getElem? (i := 340) (by decide +kernel)
theorem mwn_341 : Cond.selects RX8 yX8_takes yX8_takes ∈ wsL_law := List.mem_of_getElem? (i := 341) (by decide +kernel)
theorem mwn_342 : Cond.code yX8_takes cX8_takes 4 (some .int) ∈ wsL_law := List.mem_of_getElem? (i := 342) (by decide +kernel)
theorem dX8_readLayer_48 : decode cX8_readLayer 48 = .ok (.istore 4, 2) := by decide +kernel
theorem dX8_readLayer_63 : decode cX8_readLayer 63 = .ok (.istore 5, 2) := by decide +kernel
theorem dX8_readLayer_84 : decode cX8_readLayer 84 = .ok (.istore 6, 2) := by decide +kernel
theorem dX8_readLayer_99 : decode cX8_readLayer 99 = .ok (.istore 7, 2) := by decide +kernel
theorem dX8_readLayer_101 : decode cX8_readLayer 101 = .ok (.aload_n 0, 1) := by decide +kernel
theorem dX8_readLayer_102 : decode cX8_readLayer 102 = .ok (.getfield 115, 3) := by decide +kernel
theorem dX8_readLayer_105 : decode cX8_readLayer 105 = .ok (.ifCond .eq 4, 3) := by decide +kernel
theorem dX8_readLayer_109 : decode cX8_readLayer 109 = .ok (.bipush 6, 2) := by decide +kernel
theorem dX8_readLayer_111 : decode cX8_readLayer 111 = .ok (.iload_n 1, 1) := by decide +kernel
theorem dX8_readLayer_112 : decode cX8_readLayer 112 = .ok (.imul, 1) := by decide +kernel
theorem dX8_readLayer_113 : decode cX8_readLayer 113 = .ok (.iload_n 2, 1) := by decide +kernel
theorem dX8_readLayer_114 : decode cX8_readLayer 114 = .ok (.iadd, 1) := by decide +kernel
theorem dX8_readLayer_115 : decode cX8_readLayer 115 = .ok (.istore 8, 2) := by decide +kernel
theorem dX8_readLayer_117 : decode cX8_readLayer 117 = .ok (.aload_n 0, 1) := by decide +kernel
theorem dX8_readLayer_118 : decode cX8_readLayer 118 = .ok (.getfield 27, 3) := by decide +kernel
theorem dX8_readLayer_121 : decode cX8_readLayer 121 = .ok (.bipush 49, 2) := by decide +kernel
theorem dX8_readLayer_123 : decode cX8_readLayer 123 = .ok (.iload 8, 2) := by decide +kernel
theorem dX8_readLayer_125 : decode cX8_readLayer 125 = .ok (.iadd, 1) := by decide +kernel
theorem dX8_readLayer_126 : decode cX8_readLayer 126 = .ok (.iload 4, 2) := by decide +kernel
theorem dX8_readLayer_128 : decode cX8_readLayer 128 = .ok (.iastore, 1) := by decide +kernel
theorem dX8_readLayer_129 : decode cX8_readLayer 129 = .ok (.aload_n 0, 1) := by decide +kernel
theorem dX8_readLayer_130 : decode cX8_readLayer 130 = .ok (.getfield 27, 3) := by decide +kernel
theorem dX8_readLayer_133 : decode cX8_readLayer 133 = .ok (.bipush 109, 2) := by decide +kernel
theorem dX8_readLayer_135 : decode cX8_readLayer 135 = .ok (.iload 8, 2) := by decide +kernel
theorem dX8_readLayer_137 : decode cX8_readLayer 137 = .ok (.iadd, 1) := by decide +kernel
theorem dX8_readLayer_138 : decode cX8_readLayer 138 = .ok (.iload_n 3, 1) := by decide +kernel
theorem dX8_readLayer_139 : decode cX8_readLayer 139 = .ok (.iastore, 1) := by decide +kernel
theorem dX8_readLayer_140 : decode cX8_readLayer 140 = .ok (.aload_n 0, 1) := by decide +kernel
theorem dX8_readLayer_141 : decode cX8_readLayer 141 = .ok (.getfield 27, 3) := by decide +kernel
theorem dX8_readLayer_144 : decode cX8_readLayer 144 = .ok (.sipush 169, 3) := by decide +kernel
theorem dX8_readLayer_147 : decode cX8_readLayer 147 = .ok (.iload 8, 2) := by decide +kernel
theorem dX8_readLayer_149 : decode cX8_readLayer 149 = .ok (.iadd, 1) := by decide +kernel
theorem dX8_readLayer_150 : decode cX8_readLayer 150 = .ok (.iload 5, 2) := by decide +kernel
theorem dX8_readLayer_152 : decode cX8_readLayer 152 = .ok (.iastore, 1) := by decide +kernel
theorem dX8_readLayer_153 : decode cX8_readLayer 153 = .ok (.aload_n 0, 1) := by decide +kernel
theorem dX8_readLayer_154 : decode cX8_readLayer 154 = .ok (.getfield 27, 3) := by decide +kernel
theorem dX8_readLayer_157 : decode cX8_readLayer 157 = .ok (.sipush 229, 3) := by decide +kernel
theorem dX8_readLayer_160 : decode cX8_readLayer 160 = .ok (.iload 8, 2) := by decide +kernel
theorem dX8_readLayer_162 : decode cX8_readLayer 162 = .ok (.iadd, 1) := by decide +kernel
theorem dX8_readLayer_163 : decode cX8_readLayer 163 = .ok (.iload 6, 2) := by decide +kernel
theorem dX8_readLayer_165 : decode cX8_readLayer 165 = .ok (.iastore, 1) := by decide +kernel
theorem dX8_readLayer_166 : decode cX8_readLayer 166 = .ok (.aload_n 0, 1) := by decide +kernel
theorem dX8_readLayer_167 : decode cX8_readLayer 167 = .ok (.getfield 27, 3) := by decide +kernel
theorem dX8_readLayer_170 : decode cX8_readLayer 170 = .ok (.sipush 289, 3) := by decide +kernel
theorem dX8_readLayer_173 : decode cX8_readLayer 173 = .ok (.iload 8, 2) := by decide +kernel
theorem dX8_readLayer_175 : decode cX8_readLayer 175 = .ok (.iadd, 1) := by decide +kernel
theorem dX8_readLayer_176 : decode cX8_readLayer 176 = .ok (.iload 7, 2) := by decide +kernel
theorem dX8_readLayer_178 : decode cX8_readLayer 178 = .ok (.iastore, 1) := by decide +kernel
theorem dX8_readLayer_179 : decode cX8_readLayer 179 = .ok (.aload_n 0, 1) := by decide +kernel
theorem dX8_readLayer_180 : decode cX8_readLayer 180 = .ok (.getfield 27, 3) := by decide +kernel
theorem dX8_readLayer_183 : decode cX8_readLayer 183 = .ok (.bipush 39, 2) := by decide +kernel
theorem dX8_readLayer_185 : decode cX8_readLayer 185 = .ok (.iload_n 1, 1) := by decide +kernel
theorem dX8_readLayer_186 : decode cX8_readLayer 186 = .ok (.iadd, 1) := by decide +kernel
theorem dX8_readLayer_187 : decode cX8_readLayer 187 = .ok (.dup2, 1) := by decide +kernel
theorem dX8_readLayer_188 : decode cX8_readLayer 188 = .ok (.iaload, 1) := by decide +kernel
theorem dX8_readLayer_189 : decode cX8_readLayer 189 = .ok (.iconst 1, 1) := by decide +kernel
theorem dX8_readLayer_190 : decode cX8_readLayer 190 = .ok (.iadd, 1) := by decide +kernel
theorem dX8_readLayer_191 : decode cX8_readLayer 191 = .ok (.iastore, 1) := by decide +kernel
theorem dX8_readLayer_192 : decode cX8_readLayer 192 = .ok (.return_, 1) := by decide +kernel
theorem dX8_readLayer_108 : decode cX8_readLayer 108 = .ok (.return_, 1) := by decide +kernel
theorem dX8_readLayer_86 : decode cX8_readLayer 86 = .ok (.aload_n 0, 1) := by decide +kernel
theorem dX8_readLayer_87 : decode cX8_readLayer 87 = .ok (.iconst 5, 1) := by decide +kernel
theorem dX8_readLayer_88 : decode cX8_readLayer 88 = .ok (.invokevirtual 139, 3) := by decide +kernel
theorem hdn_yX8_eats : HD yX8_eats RX8 1 := by decide +kernel
theorem mwn_343 : Cond.methodLink RX8 139 yX8_eats ∈ wsL_law := List.mem_of_getElem? (i := 343) (by decide +kernel)
theorem mwn_344 : Cond.instanceMethod yX8_eats ∈ wsL_law := List.mem_of_getElem? (i := 344) (by decide +kernel)
theorem mwn_345 : Cond.selects RX8 yX8_eats yX8_eats ∈ wsL_law := List.mem_of_getElem? (i := 345) (by decide +kernel)
theorem mwn_346 : Cond.code yX8_eats cX8_eats 2 (some .boolean) ∈ wsL_law := List.mem_of_getElem? (i := 346) (by decide +kernel)
theorem dX8_readLayer_91 : decode cX8_readLayer 91 = .ok (.ifCond .eq 7, 3) := by decide +kernel
theorem dX8_readLayer_98 : decode cX8_readLayer 98 = .ok (.iconst 0, 1) := by decide +kernel
theorem dX8_readLayer_94 : decode cX8_readLayer 94 = .ok (.iconst 1, 1) := by decide +kernel
theorem dX8_readLayer_95 : decode cX8_readLayer 95 = .ok (.goto 4, 3) := by decide +kernel
theorem dX8_readLayer_65 : decode cX8_readLayer 65 = .ok (.aload_n 0, 1) := by decide +kernel
theorem dX8_readLayer_66 : decode cX8_readLayer 66 = .ok (.iconst 4, 1) := by decide +kernel
theorem dX8_readLayer_67 : decode cX8_readLayer 67 = .ok (.invokevirtual 139, 3) := by decide +kernel
theorem dX8_readLayer_70 : decode cX8_readLayer 70 = .ok (.ifCond .eq 13, 3) := by decide +kernel
theorem dX8_readLayer_83 : decode cX8_readLayer 83 = .ok (.iconst 0, 1) := by decide +kernel
theorem dX8_readLayer_73 : decode cX8_readLayer 73 = .ok (.aload_n 0, 1) := by decide +kernel
theorem dX8_readLayer_74 : decode cX8_readLayer 74 = .ok (.iconst 1, 1) := by decide +kernel
theorem dX8_readLayer_75 : decode cX8_readLayer 75 = .ok (.bipush 99, 2) := by decide +kernel
theorem dX8_readLayer_77 : decode cX8_readLayer 77 = .ok (.invokevirtual 135, 3) := by decide +kernel
theorem dX8_readLayer_80 : decode cX8_readLayer 80 = .ok (.goto 4, 3) := by decide +kernel
theorem dX8_readLayer_50 : decode cX8_readLayer 50 = .ok (.aload_n 0, 1) := by decide +kernel
theorem dX8_readLayer_51 : decode cX8_readLayer 51 = .ok (.iconst 3, 1) := by decide +kernel
theorem dX8_readLayer_52 : decode cX8_readLayer 52 = .ok (.invokevirtual 139, 3) := by decide +kernel
theorem dX8_readLayer_55 : decode cX8_readLayer 55 = .ok (.ifCond .eq 7, 3) := by decide +kernel
theorem dX8_readLayer_62 : decode cX8_readLayer 62 = .ok (.iconst 0, 1) := by decide +kernel
theorem dX8_readLayer_58 : decode cX8_readLayer 58 = .ok (.iconst 1, 1) := by decide +kernel
theorem dX8_readLayer_59 : decode cX8_readLayer 59 = .ok (.goto 4, 3) := by decide +kernel
theorem dX8_readLayer_23 : decode cX8_readLayer 23 = .ok (.aload_n 0, 1) := by decide +kernel
theorem dX8_readLayer_24 : decode cX8_readLayer 24 = .ok (.getfield 99, 3) := by decide +kernel
theorem dX8_readLayer_27 : decode cX8_readLayer 27 = .ok (.iconst 1, 1) := by decide +kernel
theorem dX8_readLayer_28 : decode cX8_readLayer 28 = .ok (.if_icmp .ne 7, 3) := by decide +kernel
theorem dX8_readLayer_35 : decode cX8_readLayer 35 = .ok (.iconst 1, 1) := by decide +kernel
theorem dX8_readLayer_31 : decode cX8_readLayer 31 = .ok (.iconst 0, 1) := by decide +kernel
theorem dX8_readLayer_32 : decode cX8_readLayer 32 = .ok (.goto 4, 3) := by decide +kernel
theorem dX8_readLayer_22 : decode cX8_readLayer 22 = .ok (.return_, 1) := by decide +kernel
theorem dX8_readLayer_10 : decode cX8_readLayer 10 = .ok (.aload_n 0, 1) := by decide +kernel
theorem dX8_readLayer_11 : decode cX8_readLayer 11 = .ok (.iconst 4, 1) := by decide +kernel
theorem dX8_readLayer_12 : decode cX8_readLayer 12 = .ok (.invokevirtual 127, 3) := by decide +kernel
theorem dX8_readRoof_0 : decode cX8_readRoof 0 = .ok (.aload_n 0, 1) := by decide +kernel
theorem dX8_readRoof_1 : decode cX8_readRoof 1 = .ok (.getfield 27, 3) := by decide +kernel
theorem dX8_readRoof_4 : decode cX8_readRoof 4 = .ok (.iconst 0, 1) := by decide +kernel
theorem dX8_readRoof_5 : decode cX8_readRoof 5 = .ok (.iaload, 1) := by decide +kernel
theorem dX8_readRoof_6 : decode cX8_readRoof 6 = .ok (.istore_n 1, 1) := by decide +kernel
theorem dX8_readRoof_7 : decode cX8_readRoof 7 = .ok (.iload_n 1, 1) := by decide +kernel
theorem dX8_readRoof_8 : decode cX8_readRoof 8 = .ok (.bipush 10, 2) := by decide +kernel
theorem dX8_readRoof_10 : decode cX8_readRoof 10 = .ok (.if_icmp .ne 8, 3) := by decide +kernel
theorem dX8_readRoof_18 : decode cX8_readRoof 18 = .ok (.aload_n 0, 1) := by decide +kernel
theorem dX8_readRoof_19 : decode cX8_readRoof 19 = .ok (.getfield 115, 3) := by decide +kernel
theorem dX8_readRoof_22 : decode cX8_readRoof 22 = .ok (.ifCond .eq 4, 3) := by decide +kernel
theorem dX8_readRoof_26 : decode cX8_readRoof 26 = .ok (.aload_n 0, 1) := by decide +kernel
theorem dX8_readRoof_27 : decode cX8_readRoof 27 = .ok (.invokevirtual 124, 3) := by decide +kernel
theorem dX8_readRoof_30 : decode cX8_readRoof 30 = .ok (.iconst 0, 1) := by decide +kernel
theorem dX8_readRoof_31 : decode cX8_readRoof 31 = .ok (.istore_n 2, 1) := by decide +kernel
theorem dX8_readRoof_32 : decode cX8_readRoof 32 = .ok (.aload_n 0, 1) := by decide +kernel
theorem dX8_readRoof_33 : decode cX8_readRoof 33 = .ok (.iconst 1, 1) := by decide +kernel
theorem dX8_readRoof_34 : decode cX8_readRoof 34 = .ok (.invokevirtual 121, 3) := by decide +kernel
theorem dX8_readRoof_37 : decode cX8_readRoof 37 = .ok (.ifCond .ne 11, 3) := by decide +kernel
theorem dX8_readRoof_48 : decode cX8_readRoof 48 = .ok (.aload_n 0, 1) := by decide +kernel
theorem dX8_readRoof_49 : decode cX8_readRoof 49 = .ok (.iload_n 1, 1) := by decide +kernel
theorem dX8_readRoof_50 : decode cX8_readRoof 50 = .ok (.iload_n 2, 1) := by decide +kernel
theorem dX8_readRoof_51 : decode cX8_readRoof 51 = .ok (.invokevirtual 142, 3) := by decide +kernel
theorem hdn_yX8_readLayer : HD yX8_readLayer RX8 2 := by decide +kernel
theorem mwn_335 : Cond.methodLink RX8 142 yX8_readLayer ∈ wsL_law := List.mem_of_getElem? (i := 335) (by decide +kernel)
theorem mwn_336 : Cond.instanceMethod yX8_readLayer ∈ wsL_law := List.mem_of_getElem? (i := 336) (by decide +kernel)
theorem mwn_337 : Cond.selects RX8 yX8_readLayer yX8_readLayer ∈ wsL_law := List.mem_of_getElem? (i := 337) (by decide +kernel)
theorem mwn_338 : Cond.code yX8_readLayer cX8_readLayer 9 none ∈ wsL_law := List.mem_of_getElem? (i := 338) (by decide +kernel)
theorem dX8_readRoof_54 : decode cX8_readRoof 54 = .ok (.iinc 2 1, 3) := by decide +kernel
theorem dX8_readRoof_57 : decode cX8_readRoof 57 = .ok (.goto (-25), 3) := by decide +kernel
theorem dX8_readRoof_40 : decode cX8_readRoof 40 = .ok (.aload_n 0, 1) := by decide +kernel
theorem dX8_readRoof_41 : decode cX8_readRoof 41 = .ok (.iconst 2, 1) := by decide +kernel
theorem dX8_readRoof_42 : decode cX8_readRoof 42 = .ok (.invokevirtual 121, 3) := by decide +kernel
theorem dX8_readRoof_45 : decode cX8_readRoof 45 = .ok (.ifCond .eq 15, 3) := by decide +kernel
theorem dX8_readRoof_60 : decode cX8_readRoof 60 = .ok (.iload_n 2, 1) := by decide +kernel
theorem dX8_readRoof_61 : decode cX8_readRoof 61 = .ok (.ifCond .ne 22, 3) := by decide +kernel
theorem dX8_readRoof_83 : decode cX8_readRoof 83 = .ok (.aload_n 0, 1) := by decide +kernel
theorem dX8_readRoof_84 : decode cX8_readRoof 84 = .ok (.getfield 115, 3) := by decide +kernel
theorem dX8_readRoof_87 : decode cX8_readRoof 87 = .ok (.ifCond .ne 13, 3) := by decide +kernel
theorem dX8_readRoof_100 : decode cX8_readRoof 100 = .ok (.return_, 1) := by decide +kernel
theorem dX8_readRoof_90 : decode cX8_readRoof 90 = .ok (.aload_n 0, 1) := by decide +kernel
theorem dX8_readRoof_91 : decode cX8_readRoof 91 = .ok (.getfield 27, 3) := by decide +kernel
theorem dX8_readRoof_94 : decode cX8_readRoof 94 = .ok (.iconst 0, 1) := by decide +kernel
theorem dX8_readRoof_95 : decode cX8_readRoof 95 = .ok (.dup2, 1) := by decide +kernel
theorem dX8_readRoof_96 : decode cX8_readRoof 96 = .ok (.iaload, 1) := by decide +kernel
theorem dX8_readRoof_97 : decode cX8_readRoof 97 = .ok (.iconst 1, 1) := by decide +kernel
theorem dX8_readRoof_98 : decode cX8_readRoof 98 = .ok (.iadd, 1) := by decide +kernel
theorem dX8_readRoof_99 : decode cX8_readRoof 99 = .ok (.iastore, 1) := by decide +kernel
theorem dX8_readRoof_64 : decode cX8_readRoof 64 = .ok (.aload_n 0, 1) := by decide +kernel
theorem dX8_readRoof_65 : decode cX8_readRoof 65 = .ok (.bipush 6, 2) := by decide +kernel
theorem dX8_readRoof_67 : decode cX8_readRoof 67 = .ok (.invokevirtual 139, 3) := by decide +kernel
theorem dX8_readRoof_70 : decode cX8_readRoof 70 = .ok (.ifCond .eq 13, 3) := by decide +kernel
theorem dX8_readRoof_73 : decode cX8_readRoof 73 = .ok (.aload_n 0, 1) := by decide +kernel
theorem dX8_readRoof_74 : decode cX8_readRoof 74 = .ok (.getfield 27, 3) := by decide +kernel
theorem dX8_readRoof_77 : decode cX8_readRoof 77 = .ok (.bipush 9, 2) := by decide +kernel
theorem dX8_readRoof_79 : decode cX8_readRoof 79 = .ok (.iload_n 1, 1) := by decide +kernel
theorem dX8_readRoof_80 : decode cX8_readRoof 80 = .ok (.iadd, 1) := by decide +kernel
theorem dX8_readRoof_81 : decode cX8_readRoof 81 = .ok (.iconst 1, 1) := by decide +kernel
theorem dX8_readRoof_82 : decode cX8_readRoof 82 = .ok (.iastore, 1) := by decide +kernel
theorem dX8_readRoof_25 : decode cX8_readRoof 25 = .ok (.return_, 1) := by decide +kernel
theorem dX8_readRoof_13 : decode cX8_readRoof 13 = .ok (.aload_n 0, 1) := by decide +kernel
theorem dX8_readRoof_14 : decode cX8_readRoof 14 = .ok (.iconst 4, 1) := by decide +kernel
theorem dX8_readRoof_15 : decode cX8_readRoof 15 = .ok (.invokevirtual 127, 3) := by decide +kernel
theorem dX8_readLine_0 : decode cX8_readLine 0 = .ok (.aload_n 0, 1) := by decide +kernel
theorem dX8_readLine_1 : decode cX8_readLine 1 = .ok (.iconst 0, 1) := by decide +kernel
theorem dX8_readLine_2 : decode cX8_readLine 2 = .ok (.invokevirtual 121, 3) := by decide +kernel
theorem dX8_readLine_5 : decode cX8_readLine 5 = .ok (.ifCond .eq 10, 3) := by decide +kernel
theorem dX8_readLine_15 : decode cX8_readLine 15 = .ok (.aload_n 0, 1) := by decide +kernel
theorem dX8_readLine_16 : decode cX8_readLine 16 = .ok (.bipush 7, 2) := by decide +kernel
theorem dX8_readLine_18 : decode cX8_readLine 18 = .ok (.invokevirtual 139, 3) := by decide +kernel
theorem dX8_readLine_21 : decode cX8_readLine 21 = .ok (.ifCond .eq 14, 3) := by decide +kernel
theorem dX8_readLine_35 : decode cX8_readLine 35 = .ok (.aload_n 0, 1) := by decide +kernel
theorem dX8_readLine_36 : decode cX8_readLine 36 = .ok (.bipush 8, 2) := by decide +kernel
theorem dX8_readLine_38 : decode cX8_readLine 38 = .ok (.invokevirtual 121, 3) := by decide +kernel
theorem dX8_readLine_41 : decode cX8_readLine 41 = .ok (.ifCond .eq 32, 3) := by decide +kernel
theorem dX8_readLine_73 : decode cX8_readLine 73 = .ok (.aload_n 0, 1) := by decide +kernel
theorem dX8_readLine_74 : decode cX8_readLine 74 = .ok (.iconst 1, 1) := by decide +kernel
theorem dX8_readLine_75 : decode cX8_readLine 75 = .ok (.invokevirtual 139, 3) := by decide +kernel
theorem dX8_readLine_78 : decode cX8_readLine 78 = .ok (.ifCond .eq 32, 3) := by decide +kernel
theorem dX8_readLine_110 : decode cX8_readLine 110 = .ok (.aload_n 0, 1) := by decide +kernel
theorem dX8_readLine_111 : decode cX8_readLine 111 = .ok (.bipush 9, 2) := by decide +kernel
theorem dX8_readLine_113 : decode cX8_readLine 113 = .ok (.invokevirtual 139, 3) := by decide +kernel
theorem dX8_readLine_116 : decode cX8_readLine 116 = .ok (.ifCond .eq 19, 3) := by decide +kernel
theorem dX8_readLine_135 : decode cX8_readLine 135 = .ok (.aload_n 0, 1) := by decide +kernel
theorem dX8_readLine_136 : decode cX8_readLine 136 = .ok (.iconst 2, 1) := by decide +kernel
theorem dX8_readLine_137 : decode cX8_readLine 137 = .ok (.invokevirtual 127, 3) := by decide +kernel
theorem dX8_readLine_140 : decode cX8_readLine 140 = .ok (.aload_n 0, 1) := by decide +kernel
theorem dX8_readLine_141 : decode cX8_readLine 141 = .ok (.bipush 12, 2) := by decide +kernel
theorem dX8_readLine_143 : decode cX8_readLine 143 = .ok (.invokevirtual 139, 3) := by decide +kernel
theorem dX8_readLine_146 : decode cX8_readLine 146 = .ok (.ifCond .ne 8, 3) := by decide +kernel
theorem dX8_readLine_154 : decode cX8_readLine 154 = .ok (.aload_n 0, 1) := by decide +kernel
theorem dX8_readLine_155 : decode cX8_readLine 155 = .ok (.getfield 27, 3) := by decide +kernel
theorem dX8_readLine_158 : decode cX8_readLine 158 = .ok (.bipush 7, 2) := by decide +kernel
theorem dX8_readLine_160 : decode cX8_readLine 160 = .ok (.dup2, 1) := by decide +kernel
theorem dX8_readLine_161 : decode cX8_readLine 161 = .ok (.iaload, 1) := by decide +kernel
theorem dX8_readLine_162 : decode cX8_readLine 162 = .ok (.iconst 1, 1) := by decide +kernel
theorem dX8_readLine_163 : decode cX8_readLine 163 = .ok (.iadd, 1) := by decide +kernel
theorem dX8_readLine_164 : decode cX8_readLine 164 = .ok (.iastore, 1) := by decide +kernel
theorem dX8_readLine_165 : decode cX8_readLine 165 = .ok (.return_, 1) := by decide +kernel
theorem dX8_readLine_149 : decode cX8_readLine 149 = .ok (.aload_n 0, 1) := by decide +kernel
theorem dX8_readLine_150 : decode cX8_readLine 150 = .ok (.iconst 2, 1) := by decide +kernel
theorem dX8_readLine_151 : decode cX8_readLine 151 = .ok (.invokevirtual 127, 3) := by decide +kernel
theorem dX8_readLine_119 : decode cX8_readLine 119 = .ok (.aload_n 0, 1) := by decide +kernel
theorem dX8_readLine_120 : decode cX8_readLine 120 = .ok (.getfield 27, 3) := by decide +kernel
theorem dX8_readLine_123 : decode cX8_readLine 123 = .ok (.iconst 5, 1) := by decide +kernel
theorem dX8_readLine_124 : decode cX8_readLine 124 = .ok (.aload_n 0, 1) := by decide +kernel
theorem dX8_readLine_125 : decode cX8_readLine 125 = .ok (.iconst 2, 1) := by decide +kernel
theorem dX8_readLine_126 : decode cX8_readLine 126 = .ok (.bipush 6, 2) := by decide +kernel
theorem dX8_readLine_128 : decode cX8_readLine 128 = .ok (.invokevirtual 135, 3) := by decide +kernel
theorem dX8_readLine_131 : decode cX8_readLine 131 = .ok (.iastore, 1) := by decide +kernel
theorem dX8_readLine_132 : decode cX8_readLine 132 = .ok (.goto 8, 3) := by decide +kernel
theorem dX8_readLine_81 : decode cX8_readLine 81 = .ok (.aload_n 0, 1) := by decide +kernel
theorem dX8_readLine_82 : decode cX8_readLine 82 = .ok (.getfield 27, 3) := by decide +kernel
theorem dX8_readLine_85 : decode cX8_readLine 85 = .ok (.iconst 3, 1) := by decide +kernel
theorem dX8_readLine_86 : decode cX8_readLine 86 = .ok (.aload_n 0, 1) := by decide +kernel
theorem dX8_readLine_87 : decode cX8_readLine 87 = .ok (.iconst 1, 1) := by decide +kernel
theorem dX8_readLine_88 : decode cX8_readLine 88 = .ok (.bipush 30, 2) := by decide +kernel
theorem dX8_readLine_90 : decode cX8_readLine 90 = .ok (.invokevirtual 135, 3) := by decide +kernel
theorem dX8_readLine_93 : decode cX8_readLine 93 = .ok (.iastore, 1) := by decide +kernel
theorem dX8_readLine_94 : decode cX8_readLine 94 = .ok (.aload_n 0, 1) := by decide +kernel
theorem dX8_readLine_95 : decode cX8_readLine 95 = .ok (.getfield 27, 3) := by decide +kernel
theorem dX8_readLine_98 : decode cX8_readLine 98 = .ok (.iconst 4, 1) := by decide +kernel
theorem dX8_readLine_99 : decode cX8_readLine 99 = .ok (.aload_n 0, 1) := by decide +kernel
theorem dX8_readLine_100 : decode cX8_readLine 100 = .ok (.iconst 1, 1) := by decide +kernel
theorem dX8_readLine_101 : decode cX8_readLine 101 = .ok (.bipush 30, 2) := by decide +kernel
theorem dX8_readLine_103 : decode cX8_readLine 103 = .ok (.invokevirtual 135, 3) := by decide +kernel
theorem dX8_readLine_106 : decode cX8_readLine 106 = .ok (.iastore, 1) := by decide +kernel
theorem dX8_readLine_107 : decode cX8_readLine 107 = .ok (.goto 33, 3) := by decide +kernel
theorem dX8_readLine_44 : decode cX8_readLine 44 = .ok (.aload_n 0, 1) := by decide +kernel
theorem dX8_readLine_45 : decode cX8_readLine 45 = .ok (.getfield 27, 3) := by decide +kernel
theorem dX8_readLine_48 : decode cX8_readLine 48 = .ok (.iconst 0, 1) := by decide +kernel
theorem dX8_readLine_49 : decode cX8_readLine 49 = .ok (.iaload, 1) := by decide +kernel
theorem dX8_readLine_50 : decode cX8_readLine 50 = .ok (.ifCond .ne 23, 3) := by decide +kernel
theorem dX8_readLine_53 : decode cX8_readLine 53 = .ok (.aload_n 0, 1) := by decide +kernel
theorem dX8_readLine_54 : decode cX8_readLine 54 = .ok (.invokevirtual 124, 3) := by decide +kernel
theorem dX8_readLine_57 : decode cX8_readLine 57 = .ok (.aload_n 0, 1) := by decide +kernel
theorem dX8_readLine_58 : decode cX8_readLine 58 = .ok (.getfield 27, 3) := by decide +kernel
theorem dX8_readLine_61 : decode cX8_readLine 61 = .ok (.iconst 2, 1) := by decide +kernel
theorem dX8_readLine_62 : decode cX8_readLine 62 = .ok (.aload_n 0, 1) := by decide +kernel
theorem dX8_readLine_63 : decode cX8_readLine 63 = .ok (.iconst 1, 1) := by decide +kernel
theorem dX8_readLine_64 : decode cX8_readLine 64 = .ok (.bipush 6, 2) := by decide +kernel
theorem dX8_readLine_66 : decode cX8_readLine 66 = .ok (.invokevirtual 135, 3) := by decide +kernel
theorem dX8_readLine_69 : decode cX8_readLine 69 = .ok (.iastore, 1) := by decide +kernel
theorem dX8_readLine_70 : decode cX8_readLine 70 = .ok (.goto 70, 3) := by decide +kernel
theorem dX8_readLine_24 : decode cX8_readLine 24 = .ok (.aload_n 0, 1) := by decide +kernel
theorem dX8_readLine_25 : decode cX8_readLine 25 = .ok (.getfield 27, 3) := by decide +kernel
theorem dX8_readLine_28 : decode cX8_readLine 28 = .ok (.bipush 6, 2) := by decide +kernel
theorem dX8_readLine_30 : decode cX8_readLine 30 = .ok (.iconst 1, 1) := by decide +kernel
theorem dX8_readLine_31 : decode cX8_readLine 31 = .ok (.iastore, 1) := by decide +kernel
theorem dX8_readLine_32 : decode cX8_readLine 32 = .ok (.goto 108, 3) := by decide +kernel
theorem dX8_readLine_8 : decode cX8_readLine 8 = .ok (.aload_n 0, 1) := by decide +kernel
theorem dX8_readLine_9 : decode cX8_readLine 9 = .ok (.invokevirtual 146, 3) := by decide +kernel
theorem hdn_yX8_readRoof : HD yX8_readRoof RX8 0 := by decide +kernel
theorem mwn_327 : Cond.methodLink RX8 146 yX8_readRoof ∈ wsL_law := List.mem_of_getElem? (i := 327) (by decide +kernel)
theorem mwn_328 : Cond.instanceMethod yX8_readRoof ∈ wsL_law := List.mem_of_getElem? (i := 328) (by decide +kernel)
theorem mwn_329 : Cond.selects RX8 yX8_readRoof yX8_readRoof ∈ wsL_law := List.mem_of_getElem? (i := 329) (by decide +kernel)
theorem mwn_330 : Cond.code yX8_readRoof cX8_readRoof 3 none ∈ wsL_law := List.mem_of_getElem? (i := 330) (by decide +kernel)
theorem dX8_readLine_12 : decode cX8_readLine 12 = .ok (.goto 128, 3) := by decide +kernel
theorem dX8_plain_0 : decode cX8_plain 0 = .ok (.iconst 0, 1) := by decide +kernel
theorem dX8_plain_1 : decode cX8_plain 1 = .ok (.istore_n 1, 1) := by decide +kernel
theorem dX8_plain_2 : decode cX8_plain 2 = .ok (.iload_n 1, 1) := by decide +kernel
theorem dX8_plain_3 : decode cX8_plain 3 = .ok (.sipush 409, 3) := by decide +kernel
theorem dX8_plain_6 : decode cX8_plain 6 = .ok (.if_icmp .ge 13, 3) := by decide +kernel
theorem dX8_plain_19 : decode cX8_plain 19 = .ok (.aload_n 0, 1) := by decide +kernel
theorem dX8_plain_20 : decode cX8_plain 20 = .ok (.iconst 2, 1) := by decide +kernel
theorem dX8_plain_21 : decode cX8_plain 21 = .ok (.iconst 3, 1) := by decide +kernel
theorem dX8_plain_22 : decode cX8_plain 22 = .ok (.iastore, 1) := by decide +kernel
theorem dX8_plain_23 : decode cX8_plain 23 = .ok (.aload_n 0, 1) := by decide +kernel
theorem dX8_plain_24 : decode cX8_plain 24 = .ok (.iconst 3, 1) := by decide +kernel
theorem dX8_plain_25 : decode cX8_plain 25 = .ok (.bipush 8, 2) := by decide +kernel
theorem dX8_plain_27 : decode cX8_plain 27 = .ok (.iastore, 1) := by decide +kernel
theorem dX8_plain_28 : decode cX8_plain 28 = .ok (.aload_n 0, 1) := by decide +kernel
theorem dX8_plain_29 : decode cX8_plain 29 = .ok (.iconst 4, 1) := by decide +kernel
theorem dX8_plain_30 : decode cX8_plain 30 = .ok (.iconst 4, 1) := by decide +kernel
theorem dX8_plain_31 : decode cX8_plain 31 = .ok (.iastore, 1) := by decide +kernel
theorem dX8_plain_32 : decode cX8_plain 32 = .ok (.aload_n 0, 1) := by decide +kernel
theorem dX8_plain_33 : decode cX8_plain 33 = .ok (.iconst 5, 1) := by decide +kernel
theorem dX8_plain_34 : decode cX8_plain 34 = .ok (.iconst 4, 1) := by decide +kernel
theorem dX8_plain_35 : decode cX8_plain 35 = .ok (.iastore, 1) := by decide +kernel
theorem dX8_plain_36 : decode cX8_plain 36 = .ok (.return_, 1) := by decide +kernel
theorem dX8_plain_9 : decode cX8_plain 9 = .ok (.aload_n 0, 1) := by decide +kernel
theorem dX8_plain_10 : decode cX8_plain 10 = .ok (.iload_n 1, 1) := by decide +kernel
theorem dX8_plain_11 : decode cX8_plain 11 = .ok (.iconst 0, 1) := by decide +kernel
theorem dX8_plain_12 : decode cX8_plain 12 = .ok (.iastore, 1) := by decide +kernel
theorem dX8_plain_13 : decode cX8_plain 13 = .ok (.iinc 1 1, 3) := by decide +kernel
theorem dX8_plain_16 : decode cX8_plain 16 = .ok (.goto (-14), 3) := by decide +kernel
set_option maxHeartbeats 4000000 in
set_option maxRecDepth 100000 in
theorem s_M_see (l : Launch) (D : va_G) (k : Nat → ClassId) (mm : Nat → Nat) (mf : Nat → Int32) (tf : Nat → Int32) (x : Int32) (w_hx : 0 ≤ x.toInt ∧ x.toInt ≤ 901) (w_t9 : 0 ≤ (mf 9).toInt ∧ (mf 9).toInt ≤ 900) : Met l yX8_see (Cond.code yX8_see cX8_see 2 (some .int) :: wsL_law) ({ frames := 0, cells := 0, slots := 0, locals := 0 } : Room) (va_Pc [.ref (mm 0), .int x] (pr D k [((mm 0), .inr (7, [.int (mf 0), .ref (mm 1), .ref (mm 2), .ref (mm 3), .ref (mm 4), .ref (mm 5), .int (mf 6), .int (mf 7), .int (mf 8), .int (mf 9), .int (mf 10), .int (mf 11), .int (mf 12), .int (mf 13), .int (mf 14), .int (mf 15), .int (mf 16), .ref (mm 6), .int (mf 18), .ref (mm 7), .ref (mm 8), .ref (mm 9), .int (mf 22), .ref (mm 10), .ref (mm 11), .int (mf 25), .int (mf 26), .ref (mm 12), .ref (mm 13), .int (mf 29), .ref (mm 14), .ref (mm 15), .ref (mm 16)])), ((mm 4), .inl (k 0, 900, .inl tf))])) (vp_Si (fun rr => rr = (SEE tf (mf 9) x))) 0 0 (fun _ => False) := by
  refine Met.ofW (cc := cX8_see) (maxL := 2) (ret := (some .int)) (by decide) rfl ?_
  intro p e s m args below meth c s₁ B hml hv
  obtain ⟨rfl, hP, hK, hN0⟩ := hv
  have hx := B.exec
  have hb := B.bytes
  have hr := B.returns
  have hts : ∀ w ∈ wsL_law, w.before _ s = true := fun w h => atoms_spec (ws := Cond.code yX8_see cX8_see 2 (some .int) :: wsL_law) B.pre w (List.mem_cons_of_mem _ h)
  have hown : s.vm.findClass RX8 = some m.cls := findClass_of_methodNamed B.named
  have hlocks := B.notSynchronized
  replace hP : va_P D vwCl [((mm 0), .inr (7, [.int (mf 0), .ref (mm 1), .ref (mm 2), .ref (mm 3), .ref (mm 4), .ref (mm 5), .int (mf 6), .int (mf 7), .int (mf 8), .int (mf 9), .int (mf 10), .int (mf 11), .int (mf 12), .int (mf 13), .int (mf 14), .int (mf 15), .int (mf 16), .ref (mm 6), .int (mf 18), .ref (mm 7), .ref (mm 8), .ref (mm 9), .int (mf 22), .ref (mm 10), .ref (mm 11), .int (mf 25), .int (mf 26), .ref (mm 12), .ref (mm 13), .int (mf 29), .ref (mm 14), .ref (mm 15), .ref (mm 16)])), ((mm 4), .inl (k 0, 900, .inl tf))] s.heap := hP
  have hl := lv_entry ([.ref (mm 0), .int x]) (n := 2) (Nat.le_of_ble_eq_true rfl)
  rw [lg_entry_eq]
  generalize (lg_sl ([.ref (mm 0), .int x]) ++ List.replicate (2 - (lg_sl ([.ref (mm 0), .int x])).length) Slot.unset).toArray = ls at hl ⊢
  replace hl : lv_has ls 2 [(0, .ref (mm 0)), (1, .int x)] := hl
  refine lv_iload_n hx hb dX8_see_0 rfl (lv_at hl 1 rfl) ?_
  refine lv_aload_n hx hb dX8_see_1 rfl (lv_at hl 0 rfl) ?_
  refine va_get (D := D) (ci := 7) (v := .int (mf 9)) (C := RX8) (T := TX8) (N := 33) hx hb hts inlX8 hown hK hP 0 rfl rfl 9 (by decide) (hts _ mwn_287) (fun _ h9 => h9) rfl dX8_see_2 ?_
  refine lv_icmp_ge (tgt := 17) hx hb dX8_see_5 (by decide) (fun c_1 => ?_) (fun c_1 => ?_)
  · have c_1 : (mf 9).toInt ≤ x.toInt := ti_le c_1
    refine lv_iconst (v := (-1)) hx hb dX8_see_17 (by decide) ?_
    exact W.iret (v := (-1)) hx hb hr (fun t ht hW => ⟨(-1), rfl, (if_neg (by omega)).symm, ht⟩) (fun q h => by cases h) dX8_see_18
  · have c_1 : x.toInt < (mf 9).toInt := ti_nle c_1
    refine lv_aload_n hx hb dX8_see_8 rfl (lv_at hl 0 rfl) ?_
    refine va_get (D := D) (ci := 7) (v := .ref (mm 4)) (C := RX8) (T := TX8) (N := 33) hx hb hts inlX8 hown hK hP 0 rfl rfl 4 (by decide) (hts _ mwn_94) (fun _ h9 => h9) rfl dX8_see_9 ?_
    refine lv_iload_n hx hb dX8_see_12 rfl (lv_at hl 1 rfl) ?_
    refine va_iald hx hb hK hP 1 0 rfl rfl (vp_in_o (by omega) (by omega)) dX8_see_13 ?_
    refine lv_topi (fun z_2 ez_2 => ?_)
    refine lv_goto (tgt := 18) hx hb dX8_see_14 (by decide) ?_
    exact W.iret (v := z_2) hx hb hr (fun t ht hW => ⟨z_2, rfl, (by rw [ez_2]; exact (if_pos (by omega)).symm), ht⟩) (fun q h => by cases h) dX8_see_18
set_option maxHeartbeats 4000000 in
set_option maxRecDepth 100000 in
theorem s_M_isSmall (l : Launch) (D : va_G) (k : Nat → ClassId) (x : Int32) : Met l yX8_isSmall (Cond.code yX8_isSmall cX8_isSmall 1 (some .boolean) :: wsL_law) ({ frames := 0, cells := 0, slots := 0, locals := 0 } : Room) (va_Pc [.int x] (pr D k [])) (vp_Si (fun rr => (rr.toInt = 0 ∧ (x.toInt < 97 ∨ 122 < x.toInt)) ∨ (rr.toInt = 1 ∧ 97 ≤ x.toInt ∧ x.toInt ≤ 122))) 0 0 (fun _ => False) := by
  refine Met.ofW (cc := cX8_isSmall) (maxL := 1) (ret := (some .boolean)) (by decide) rfl ?_
  intro p e s m args below meth c s₁ B hml hv
  obtain ⟨rfl, hP, hK, hN0⟩ := hv
  have hx := B.exec
  have hb := B.bytes
  have hr := B.returns
  have hts : ∀ w ∈ wsL_law, w.before _ s = true := fun w h => atoms_spec (ws := Cond.code yX8_isSmall cX8_isSmall 1 (some .boolean) :: wsL_law) B.pre w (List.mem_cons_of_mem _ h)
  have hown : s.vm.findClass RX8 = some m.cls := findClass_of_methodNamed B.named
  have hlocks := B.notSynchronized
  replace hP : va_P D vwCl [] s.heap := hP
  have hl := lv_entry ([.int x]) (n := 1) (Nat.le_of_ble_eq_true rfl)
  rw [lg_entry_eq]
  generalize (lg_sl ([.int x]) ++ List.replicate (1 - (lg_sl ([.int x])).length) Slot.unset).toArray = ls at hl ⊢
  replace hl : lv_has ls 1 [(0, .int x)] := hl
  refine lv_iload_n hx hb dX8_isSmall_0 rfl (lv_at hl 0 rfl) ?_
  refine lv_bipush (v := 97) hx hb dX8_isSmall_1 (by decide) ?_
  refine lv_icmp_lt (tgt := 16) hx hb dX8_isSmall_3 (by decide) (fun c_1 => ?_) (fun c_1 => ?_)
  · have c_1 : x.toInt < 97 := ti_lt c_1
    refine lv_iconst (v := 0) hx hb dX8_isSmall_16 (by decide) ?_
    exact W.zret (v := 0) hx hb hr rfl (fun t ht hW => ⟨0, rfl, (show (0 = 0 ∧ (x.toInt < 97 ∨ 122 < x.toInt)) ∨ (0 = 1 ∧ 97 ≤ x.toInt ∧ x.toInt ≤ 122) from by omega), ht⟩) (fun q h => by cases h) dX8_isSmall_17
  · have c_1 : 97 ≤ x.toInt := ti_nlt c_1
    refine lv_iload_n hx hb dX8_isSmall_6 rfl (lv_at hl 0 rfl) ?_
    refine lv_bipush (v := 122) hx hb dX8_isSmall_7 (by decide) ?_
    refine lv_icmp_gt (tgt := 16) hx hb dX8_isSmall_9 (by decide) (fun c_2 => ?_) (fun c_2 => ?_)
    · have c_2 : 122 < x.toInt := ti_lt c_2
      refine lv_iconst (v := 0) hx hb dX8_isSmall_16 (by decide) ?_
      exact W.zret (v := 0) hx hb hr rfl (fun t ht hW => ⟨0, rfl, (show (0 = 0 ∧ (x.toInt < 97 ∨ 122 < x.toInt)) ∨ (0 = 1 ∧ 97 ≤ x.toInt ∧ x.toInt ≤ 122) from by omega), ht⟩) (fun q h => by cases h) dX8_isSmall_17
    · have c_2 : x.toInt ≤ 122 := ti_nlt c_2
      refine lv_iconst (v := 1) hx hb dX8_isSmall_12 (by decide) ?_
      refine lv_goto (tgt := 17) hx hb dX8_isSmall_13 (by decide) ?_
      exact W.zret (v := 1) hx hb hr rfl (fun t ht hW => ⟨1, rfl, (show (1 = 0 ∧ (x.toInt < 97 ∨ 122 < x.toInt)) ∨ (1 = 1 ∧ 97 ≤ x.toInt ∧ x.toInt ≤ 122) from by omega), ht⟩) (fun q h => by cases h) dX8_isSmall_17
set_option maxHeartbeats 4000000 in
set_option maxRecDepth 100000 in
theorem s_M_isDigit (l : Launch) (D : va_G) (k : Nat → ClassId) (x : Int32) : Met l yX8_isDigit (Cond.code yX8_isDigit cX8_isDigit 1 (some .boolean) :: wsL_law) ({ frames := 0, cells := 0, slots := 0, locals := 0 } : Room) (va_Pc [.int x] (pr D k [])) (vp_Si (fun rr => (rr.toInt = 0 ∧ (x.toInt < 48 ∨ 57 < x.toInt)) ∨ (rr.toInt = 1 ∧ 48 ≤ x.toInt ∧ x.toInt ≤ 57))) 0 0 (fun _ => False) := by
  refine Met.ofW (cc := cX8_isDigit) (maxL := 1) (ret := (some .boolean)) (by decide) rfl ?_
  intro p e s m args below meth c s₁ B hml hv
  obtain ⟨rfl, hP, hK, hN0⟩ := hv
  have hx := B.exec
  have hb := B.bytes
  have hr := B.returns
  have hts : ∀ w ∈ wsL_law, w.before _ s = true := fun w h => atoms_spec (ws := Cond.code yX8_isDigit cX8_isDigit 1 (some .boolean) :: wsL_law) B.pre w (List.mem_cons_of_mem _ h)
  have hown : s.vm.findClass RX8 = some m.cls := findClass_of_methodNamed B.named
  have hlocks := B.notSynchronized
  replace hP : va_P D vwCl [] s.heap := hP
  have hl := lv_entry ([.int x]) (n := 1) (Nat.le_of_ble_eq_true rfl)
  rw [lg_entry_eq]
  generalize (lg_sl ([.int x]) ++ List.replicate (1 - (lg_sl ([.int x])).length) Slot.unset).toArray = ls at hl ⊢
  replace hl : lv_has ls 1 [(0, .int x)] := hl
  refine lv_iload_n hx hb dX8_isDigit_0 rfl (lv_at hl 0 rfl) ?_
  refine lv_bipush (v := 48) hx hb dX8_isDigit_1 (by decide) ?_
  refine lv_icmp_lt (tgt := 16) hx hb dX8_isDigit_3 (by decide) (fun c_1 => ?_) (fun c_1 => ?_)
  · have c_1 : x.toInt < 48 := ti_lt c_1
    refine lv_iconst (v := 0) hx hb dX8_isDigit_16 (by decide) ?_
    exact W.zret (v := 0) hx hb hr rfl (fun t ht hW => ⟨0, rfl, (show (0 = 0 ∧ (x.toInt < 48 ∨ 57 < x.toInt)) ∨ (0 = 1 ∧ 48 ≤ x.toInt ∧ x.toInt ≤ 57) from by omega), ht⟩) (fun q h => by cases h) dX8_isDigit_17
  · have c_1 : 48 ≤ x.toInt := ti_nlt c_1
    refine lv_iload_n hx hb dX8_isDigit_6 rfl (lv_at hl 0 rfl) ?_
    refine lv_bipush (v := 57) hx hb dX8_isDigit_7 (by decide) ?_
    refine lv_icmp_gt (tgt := 16) hx hb dX8_isDigit_9 (by decide) (fun c_2 => ?_) (fun c_2 => ?_)
    · have c_2 : 57 < x.toInt := ti_lt c_2
      refine lv_iconst (v := 0) hx hb dX8_isDigit_16 (by decide) ?_
      exact W.zret (v := 0) hx hb hr rfl (fun t ht hW => ⟨0, rfl, (show (0 = 0 ∧ (x.toInt < 48 ∨ 57 < x.toInt)) ∨ (0 = 1 ∧ 48 ≤ x.toInt ∧ x.toInt ≤ 57) from by omega), ht⟩) (fun q h => by cases h) dX8_isDigit_17
    · have c_2 : x.toInt ≤ 57 := ti_nlt c_2
      refine lv_iconst (v := 1) hx hb dX8_isDigit_12 (by decide) ?_
      refine lv_goto (tgt := 17) hx hb dX8_isDigit_13 (by decide) ?_
      exact W.zret (v := 1) hx hb hr rfl (fun t ht hW => ⟨1, rfl, (show (1 = 0 ∧ (x.toInt < 48 ∨ 57 < x.toInt)) ∨ (1 = 1 ∧ 48 ≤ x.toInt ∧ x.toInt ≤ 57) from by omega), ht⟩) (fun q h => by cases h) dX8_isDigit_17
set_option maxHeartbeats 4000000 in
set_option maxRecDepth 100000 in
theorem s_M_keyAt (l : Launch) (D : va_G) (k : Nat → ClassId) (ak : Nat → Nat) (av : Nat → Nat) (mm : Nat → Nat) (mf : Nat → Int32) (tf : Nat → Int32) (w_t7 : 0 ≤ (mf 7).toInt ∧ (mf 7).toInt ≤ 900) (w_t8 : 0 ≤ (mf 8).toInt ∧ (mf 8).toInt ≤ 900) : Met l yX8_keyAt (Cond.code yX8_keyAt cX8_keyAt 4 (some .int) :: wsL_law) ({ frames := 4, cells := 0, slots := 0, locals := 240 } : Room) (va_Pc [.ref (mm 0)] (prs ak av D k [((mm 0), .inr (7, [.int (mf 0), .ref (mm 1), .ref (mm 2), .ref (mm 3), .ref (mm 4), .ref (mm 5), .int (mf 6), .int (mf 7), .int (mf 8), .int (mf 9), .int (mf 10), .int (mf 11), .int (mf 12), .int (mf 13), .int (mf 14), .int (mf 15), .int (mf 16), .ref (mm 6), .int (mf 18), .ref (mm 7), .ref (mm 8), .ref (mm 9), .int (mf 22), .ref (mm 10), .ref (mm 11), .int (mf 25), .int (mf 26), .ref (mm 12), .ref (mm 13), .int (mf 29), .ref (mm 14), .ref (mm 15), .ref (mm 16)])), ((mm 4), .inl (k 0, 900, .inl tf))])) (vp_Si (fun rr => True)) 0 0 (fun _ => False) := by
  refine Met.ofW (cc := cX8_keyAt) (maxL := 4) (ret := (some .int)) (by decide) rfl ?_
  intro p e s m args below meth c s₁ B hml hv
  obtain ⟨rfl, hP, hK, hN0, hW0⟩ := hv
  have hS : va_S (fun _ => False) s.heap s.heap [] := va_S.rf
  have hx := B.exec
  have hb := B.bytes
  have hr := B.returns
  have hts : ∀ w ∈ wsL_law, w.before _ s = true := fun w h => atoms_spec (ws := Cond.code yX8_keyAt cX8_keyAt 4 (some .int) :: wsL_law) B.pre w (List.mem_cons_of_mem _ h)
  have hown : s.vm.findClass RX8 = some m.cls := findClass_of_methodNamed B.named
  have hlocks := B.notSynchronized
  replace hP : va_P D vwCl [((mm 0), .inr (7, [.int (mf 0), .ref (mm 1), .ref (mm 2), .ref (mm 3), .ref (mm 4), .ref (mm 5), .int (mf 6), .int (mf 7), .int (mf 8), .int (mf 9), .int (mf 10), .int (mf 11), .int (mf 12), .int (mf 13), .int (mf 14), .int (mf 15), .int (mf 16), .ref (mm 6), .int (mf 18), .ref (mm 7), .ref (mm 8), .ref (mm 9), .int (mf 22), .ref (mm 10), .ref (mm 11), .int (mf 25), .int (mf 26), .ref (mm 12), .ref (mm 13), .int (mf 29), .ref (mm 14), .ref (mm 15), .ref (mm 16)])), ((mm 4), .inl (k 0, 900, .inl tf))] s.heap := hP
  have hl := lv_entry ([.ref (mm 0)]) (n := 4) (Nat.le_of_ble_eq_true rfl)
  rw [lg_entry_eq]
  generalize (lg_sl ([.ref (mm 0)]) ++ List.replicate (4 - (lg_sl ([.ref (mm 0)])).length) Slot.unset).toArray = ls at hl ⊢
  replace hl : lv_has ls 4 [(0, .ref (mm 0))] := hl
  have hLN : (LN 10).toInt = 53 := by decide +kernel
  refine lv_iconst (v := 0) hx hb dX8_keyAt_0 (by decide) ?_
  refine lv_istore_n (lv' := [(1, .int 0), (0, .ref (mm 0))]) hx hb dX8_keyAt_1 rfl hl (by decide) rfl (fun ls hl => ?_)
  refine lv_iconst (v := 1) hx hb dX8_keyAt_2 (by decide) ?_
  refine lv_istore_n (lv' := [(2, .int 1), (1, .int 0), (0, .ref (mm 0))]) hx hb dX8_keyAt_3 rfl hl (by decide) rfl (fun ls hl => ?_)
  refine W_loop (σ := Int32 × Int32) (fun xx H locs ls => (1 ≤ xx.1.toInt ∧ xx.1.toInt ≤ 53) ∧ va_P D vwCl [((mm 0), .inr (7, [.int (mf 0), .ref (mm 1), .ref (mm 2), .ref (mm 3), .ref (mm 4), .ref (mm 5), .int (mf 6), .int (mf 7), .int (mf 8), .int (mf 9), .int (mf 10), .int (mf 11), .int (mf 12), .int (mf 13), .int (mf 14), .int (mf 15), .int (mf 16), .ref (mm 6), .int (mf 18), .ref (mm 7), .ref (mm 8), .ref (mm 9), .int (mf 22), .ref (mm 10), .ref (mm 11), .int (mf 25), .int (mf 26), .ref (mm 12), .ref (mm 13), .int (mf 29), .ref (mm 14), .ref (mm 15), .ref (mm 16)])), ((mm 4), .inl (k 0, 900, .inl tf))] H ∧ H = s.heap ∧ locs = [] ∧ lv_has ls 4 [(2, .int xx.1), (1, .int xx.2), (0, .ref (mm 0))]) (fun xx => (53 - xx.1.toInt).toNat) ?_ (1, 0) _ _ ls ⟨(show 1 ≤ (1 : Int32).toInt ∧ (1 : Int32).toInt ≤ 53 from ⟨by decide, by decide⟩), hP.sub [0, 1] rfl, rfl, rfl, lv_sub hl [0, 1, 2] rfl⟩
  intro xx H locs ls hI ih4
  obtain ⟨i_1, y_2⟩ := xx
  obtain ⟨h_3, hP, rfl, rfl, hl⟩ := hI
  replace h_3 : 1 ≤ i_1.toInt ∧ i_1.toInt ≤ 53 := h_3
  obtain ⟨h_3a, h_3b⟩ := h_3
  replace hP : va_P D vwCl [((mm 0), .inr (7, [.int (mf 0), .ref (mm 1), .ref (mm 2), .ref (mm 3), .ref (mm 4), .ref (mm 5), .int (mf 6), .int (mf 7), .int (mf 8), .int (mf 9), .int (mf 10), .int (mf 11), .int (mf 12), .int (mf 13), .int (mf 14), .int (mf 15), .int (mf 16), .ref (mm 6), .int (mf 18), .ref (mm 7), .ref (mm 8), .ref (mm 9), .int (mf 22), .ref (mm 10), .ref (mm 11), .int (mf 25), .int (mf 26), .ref (mm 12), .ref (mm 13), .int (mf 29), .ref (mm 14), .ref (mm 15), .ref (mm 16)])), ((mm 4), .inl (k 0, 900, .inl tf))] s.heap := hP
  replace hl : lv_has ls 4 [(2, .int i_1), (1, .int y_2), (0, .ref (mm 0))] := hl
  refine lv_iload_n hx hb dX8_keyAt_4 rfl (lv_at hl 0 rfl) ?_
  refine va_ldcS (own := RX8) (index := 77) (tx := " roof reed straw wet mice spark slate ring deep odds ") (q := ak 10) hx hb hown (hW0.2.2.2 10 (by decide)) dX8_keyAt_5 ?_
  refine kT_is (As := []) (rest := [.int i_1]) ⟨hx, hb, hml, hown, hts⟩ (s_S_length l D k ak av 10 (by omega)) (gV mwn_314 mwn_190 mwn_191 mwn_192 mwn_193) hdn_yJ0_length_8abf5 rfl rfl ⟨Nat.le_of_ble_eq_true rfl, Nat.le_of_ble_eq_true rfl⟩ hK hN0 hW0 hS (hP.sub [] rfl) (by omega) rfl rfl hl.1 rfl (Nat.le_of_ble_eq_true rfl) dX8_keyAt_7 ⟨Nat.le_of_ble_eq_true rfl, Nat.le_of_ble_eq_true rfl⟩ (fun r_4 hr_4 => ?_)
  obtain rfl : r_4 = (LN 10) := hr_4
  refine lv_icmp_ge (tgt := 123) hx hb dX8_keyAt_10 (by decide) (fun c_5 => ?_) (fun c_5 => ?_)
  · have c_5 : (LN 10).toInt ≤ i_1.toInt := ti_le c_5
    refine lv_bipush (v := 10) hx hb dX8_keyAt_123 (by decide) ?_
    exact W.iret (v := 10) hx hb hr (fun t ht hW => ⟨10, rfl, trivial, ht⟩) (fun q h => by cases h) dX8_keyAt_125
  · have c_5 : i_1.toInt < (LN 10).toInt := ti_nle c_5
    refine lv_iconst (v := 0) hx hb dX8_keyAt_13 (by decide) ?_
    refine lv_istore_n (lv' := [(3, .int 0), (2, .int i_1), (1, .int y_2), (0, .ref (mm 0))]) hx hb dX8_keyAt_14 rfl hl (by decide) rfl (fun ls hl => ?_)
    refine W_loop (σ := Int32) (fun xx H locs ls => (0 ≤ xx.toInt ∧ xx.toInt ≤ (52 - i_1.toInt)) ∧ va_P D vwCl [((mm 0), .inr (7, [.int (mf 0), .ref (mm 1), .ref (mm 2), .ref (mm 3), .ref (mm 4), .ref (mm 5), .int (mf 6), .int (mf 7), .int (mf 8), .int (mf 9), .int (mf 10), .int (mf 11), .int (mf 12), .int (mf 13), .int (mf 14), .int (mf 15), .int (mf 16), .ref (mm 6), .int (mf 18), .ref (mm 7), .ref (mm 8), .ref (mm 9), .int (mf 22), .ref (mm 10), .ref (mm 11), .int (mf 25), .int (mf 26), .ref (mm 12), .ref (mm 13), .int (mf 29), .ref (mm 14), .ref (mm 15), .ref (mm 16)])), ((mm 4), .inl (k 0, 900, .inl tf))] H ∧ H = s.heap ∧ locs = [] ∧ lv_has ls 4 [(3, .int xx), (2, .int i_1), (1, .int y_2), (0, .ref (mm 0))]) (fun xx => ((52 - i_1.toInt) - xx.toInt).toNat) ?_ (0) _ _ ls ⟨(show 0 ≤ (0 : Int32).toInt ∧ (0 : Int32).toInt ≤ (52 - i_1.toInt) from ⟨by decide, by rw [show (0 : Int32).toInt = 0 from by decide]; omega⟩), hP.sub [0, 1] rfl, rfl, rfl, lv_sub hl [0, 1, 2, 3] rfl⟩
    intro xx H locs ls hI ih15
    obtain ⟨i_6, rfl⟩ : ∃ z, z = xx := ⟨_, rfl⟩
    obtain ⟨h_7, hP, rfl, rfl, hl⟩ := hI
    replace h_7 : 0 ≤ i_6.toInt ∧ i_6.toInt ≤ (52 - i_1.toInt) := h_7
    obtain ⟨h_7a, h_7b⟩ := h_7
    replace hP : va_P D vwCl [((mm 0), .inr (7, [.int (mf 0), .ref (mm 1), .ref (mm 2), .ref (mm 3), .ref (mm 4), .ref (mm 5), .int (mf 6), .int (mf 7), .int (mf 8), .int (mf 9), .int (mf 10), .int (mf 11), .int (mf 12), .int (mf 13), .int (mf 14), .int (mf 15), .int (mf 16), .ref (mm 6), .int (mf 18), .ref (mm 7), .ref (mm 8), .ref (mm 9), .int (mf 22), .ref (mm 10), .ref (mm 11), .int (mf 25), .int (mf 26), .ref (mm 12), .ref (mm 13), .int (mf 29), .ref (mm 14), .ref (mm 15), .ref (mm 16)])), ((mm 4), .inl (k 0, 900, .inl tf))] s.heap := hP
    replace hl : lv_has ls 4 [(3, .int i_6), (2, .int i_1), (1, .int y_2), (0, .ref (mm 0))] := hl
    refine va_ldcS (own := RX8) (index := 77) (tx := " roof reed straw wet mice spark slate ring deep odds ") (q := ak 10) hx hb hown (hW0.2.2.2 10 (by decide)) dX8_keyAt_15 ?_
    refine lv_iload_n hx hb dX8_keyAt_17 rfl (lv_at hl 1 rfl) ?_
    refine lv_iload_n hx hb dX8_keyAt_18 rfl (lv_at hl 0 rfl) ?_
    refine lv_iadd hx hb dX8_keyAt_19 ?_
    refine lv_topi (fun z_8 ez_8 => ?_)
    have tz_8 : z_8.toInt = i_1.toInt + i_6.toInt := by rw [ez_8]; exact ti_add (by omega) (by omega)
    refine kT_is (As := [.int z_8]) (rest := []) ⟨hx, hb, hml, hown, hts⟩ (s_S_charAtK l D k ak av z_8 (show 0 ≤ z_8.toInt from by omega) (show z_8.toInt < 53 from by omega)) (gV mwn_315 mwn_202 mwn_203 mwn_192 mwn_204) hdn_yJ0_charAt_5068e rfl rfl ⟨Nat.le_of_ble_eq_true rfl, Nat.le_of_ble_eq_true rfl⟩ hK hN0 hW0 hS (hP.sub [] rfl) (by omega) rfl rfl hl.1 rfl (Nat.le_of_ble_eq_true rfl) dX8_keyAt_20 ⟨Nat.le_of_ble_eq_true rfl, Nat.le_of_ble_eq_true rfl⟩ (fun r_9 hr_9 => ?_)
    replace hr_9 : r_9.toInt = 32 ∨ z_8.toInt < 52 := hr_9
    refine lv_bipush (v := 32) hx hb dX8_keyAt_23 (by decide) ?_
    refine lv_icmp_eq (tgt := 69) hx hb dX8_keyAt_25 (by decide) (fun c_10 => ?_) (fun c_10 => ?_)
    · have c_10 : r_9.toInt = 32 := ti_eq c_10
      have qc_10 : r_9 = 32 := ti_of (show r_9.toInt = 32 from by omega)
      refine va_ldcS (own := RX8) (index := 77) (tx := " roof reed straw wet mice spark slate ring deep odds ") (q := ak 10) hx hb hown (hW0.2.2.2 10 (by decide)) dX8_keyAt_69 ?_
      refine lv_iload_n hx hb dX8_keyAt_71 rfl (lv_at hl 1 rfl) ?_
      refine lv_iload_n hx hb dX8_keyAt_72 rfl (lv_at hl 0 rfl) ?_
      refine lv_iadd hx hb dX8_keyAt_73 ?_
      refine lv_topi (fun z_11 ez_11 => ?_)
      have tz_11 : z_11.toInt = i_1.toInt + i_6.toInt := by rw [ez_11]; exact ti_add (by omega) (by omega)
      refine kT_is (As := [.int z_11]) (rest := []) ⟨hx, hb, hml, hown, hts⟩ (s_S_charAtK l D k ak av z_11 (show 0 ≤ z_11.toInt from by omega) (show z_11.toInt < 53 from by omega)) (gV mwn_315 mwn_202 mwn_203 mwn_192 mwn_204) hdn_yJ0_charAt_5068e rfl rfl ⟨Nat.le_of_ble_eq_true rfl, Nat.le_of_ble_eq_true rfl⟩ hK hN0 hW0 hS (hP.sub [] rfl) (by omega) rfl rfl hl.1 rfl (Nat.le_of_ble_eq_true rfl) dX8_keyAt_74 ⟨Nat.le_of_ble_eq_true rfl, Nat.le_of_ble_eq_true rfl⟩ (fun r_12 hr_12 => ?_)
      replace hr_12 : r_12.toInt = 32 ∨ z_11.toInt < 52 := hr_12
      refine lv_bipush (v := 32) hx hb dX8_keyAt_77 (by decide) ?_
      refine lv_icmp_ne (tgt := 97) hx hb dX8_keyAt_79 (by decide) (fun c_13 => ?_) (fun c_13 => ?_)
      · have c_13 : r_12.toInt ≠ 32 := ti_ne c_13
        refine W_loop (σ := Int32) (fun xx H locs ls => (i_1.toInt ≤ xx.toInt ∧ xx.toInt ≤ 52) ∧ va_P D vwCl [((mm 0), .inr (7, [.int (mf 0), .ref (mm 1), .ref (mm 2), .ref (mm 3), .ref (mm 4), .ref (mm 5), .int (mf 6), .int (mf 7), .int (mf 8), .int (mf 9), .int (mf 10), .int (mf 11), .int (mf 12), .int (mf 13), .int (mf 14), .int (mf 15), .int (mf 16), .ref (mm 6), .int (mf 18), .ref (mm 7), .ref (mm 8), .ref (mm 9), .int (mf 22), .ref (mm 10), .ref (mm 11), .int (mf 25), .int (mf 26), .ref (mm 12), .ref (mm 13), .int (mf 29), .ref (mm 14), .ref (mm 15), .ref (mm 16)])), ((mm 4), .inl (k 0, 900, .inl tf))] H ∧ H = s.heap ∧ locs = [] ∧ lv_has ls 4 [(3, .int i_6), (2, .int xx), (1, .int y_2), (0, .ref (mm 0))]) (fun xx => (52 - xx.toInt).toNat) ?_ (i_1) _ _ ls ⟨(show i_1.toInt ≤ i_1.toInt ∧ i_1.toInt ≤ 52 from ⟨by omega, by omega⟩), hP.sub [0, 1] rfl, rfl, rfl, lv_sub hl [0, 1, 2, 3] rfl⟩
        intro xx H locs ls hI ih97
        obtain ⟨i_14, rfl⟩ : ∃ z, z = xx := ⟨_, rfl⟩
        obtain ⟨h_15, hP, rfl, rfl, hl⟩ := hI
        replace h_15 : i_1.toInt ≤ i_14.toInt ∧ i_14.toInt ≤ 52 := h_15
        obtain ⟨h_15a, h_15b⟩ := h_15
        replace hP : va_P D vwCl [((mm 0), .inr (7, [.int (mf 0), .ref (mm 1), .ref (mm 2), .ref (mm 3), .ref (mm 4), .ref (mm 5), .int (mf 6), .int (mf 7), .int (mf 8), .int (mf 9), .int (mf 10), .int (mf 11), .int (mf 12), .int (mf 13), .int (mf 14), .int (mf 15), .int (mf 16), .ref (mm 6), .int (mf 18), .ref (mm 7), .ref (mm 8), .ref (mm 9), .int (mf 22), .ref (mm 10), .ref (mm 11), .int (mf 25), .int (mf 26), .ref (mm 12), .ref (mm 13), .int (mf 29), .ref (mm 14), .ref (mm 15), .ref (mm 16)])), ((mm 4), .inl (k 0, 900, .inl tf))] s.heap := hP
        replace hl : lv_has ls 4 [(3, .int i_6), (2, .int i_14), (1, .int y_2), (0, .ref (mm 0))] := hl
        refine va_ldcS (own := RX8) (index := 77) (tx := " roof reed straw wet mice spark slate ring deep odds ") (q := ak 10) hx hb hown (hW0.2.2.2 10 (by decide)) dX8_keyAt_97 ?_
        refine lv_iload_n hx hb dX8_keyAt_99 rfl (lv_at hl 1 rfl) ?_
        refine kT_is (As := [.int i_14]) (rest := []) ⟨hx, hb, hml, hown, hts⟩ (s_S_charAtK l D k ak av i_14 (show 0 ≤ i_14.toInt from by omega) (show i_14.toInt < 53 from by omega)) (gV mwn_315 mwn_202 mwn_203 mwn_192 mwn_204) hdn_yJ0_charAt_5068e rfl rfl ⟨Nat.le_of_ble_eq_true rfl, Nat.le_of_ble_eq_true rfl⟩ hK hN0 hW0 hS (hP.sub [] rfl) (by omega) rfl rfl hl.1 rfl (Nat.le_of_ble_eq_true rfl) dX8_keyAt_100 ⟨Nat.le_of_ble_eq_true rfl, Nat.le_of_ble_eq_true rfl⟩ (fun r_16 hr_16 => ?_)
        replace hr_16 : r_16.toInt = 32 ∨ i_14.toInt < 52 := hr_16
        refine lv_bipush (v := 32) hx hb dX8_keyAt_103 (by decide) ?_
        refine lv_icmp_eq (tgt := 114) hx hb dX8_keyAt_105 (by decide) (fun c_17 => ?_) (fun c_17 => ?_)
        · have c_17 : r_16.toInt = 32 := ti_eq c_17
          have qc_17 : r_16 = 32 := ti_of (show r_16.toInt = 32 from by omega)
          obtain ⟨z_18, ez_18⟩ : ∃ y : Int32, y = i_14 + 1 := ⟨_, rfl⟩
          have tz_18 : z_18.toInt = i_14.toInt + 1 := by rw [ez_18]; exact ti_addc (by decide) (by omega) (by omega)
          refine lv_iinc (v := z_18) (lv' := [(2, .int z_18), (3, .int i_6), (1, .int y_2), (0, .ref (mm 0))]) hx hb dX8_keyAt_114 hl (k := 1) rfl (ez_18.symm) (by decide) rfl (fun ls hl => ?_)
          obtain ⟨z_19, ez_19⟩ : ∃ y : Int32, y = y_2 + 1 := ⟨_, rfl⟩
          refine lv_iinc (v := z_19) (lv' := [(1, .int z_19), (2, .int z_18), (3, .int i_6), (0, .ref (mm 0))]) hx hb dX8_keyAt_117 hl (k := 2) rfl (ez_19.symm) (by decide) rfl (fun ls hl => ?_)
          refine lv_goto (tgt := 4) hx hb dX8_keyAt_120 (by decide) ?_
          exact ih4 (z_18, z_19) _ _ ls (by show (53 - z_18.toInt).toNat < (53 - i_1.toInt).toNat; omega) ⟨(show 1 ≤ z_18.toInt ∧ z_18.toInt ≤ 53 from ⟨by omega, by omega⟩), hP.sub [0, 1] rfl, rfl, rfl, lv_sub hl [1, 0, 3] rfl⟩
        · have c_17 : r_16.toInt ≠ 32 := ti_ne c_17
          obtain ⟨z_20, ez_20⟩ : ∃ y : Int32, y = i_14 + 1 := ⟨_, rfl⟩
          have tz_20 : z_20.toInt = i_14.toInt + 1 := by rw [ez_20]; exact ti_addc (by decide) (by omega) (by omega)
          refine lv_iinc (v := z_20) (lv' := [(2, .int z_20), (3, .int i_6), (1, .int y_2), (0, .ref (mm 0))]) hx hb dX8_keyAt_108 hl (k := 1) rfl (ez_20.symm) (by decide) rfl (fun ls hl => ?_)
          refine lv_goto (tgt := 97) hx hb dX8_keyAt_111 (by decide) ?_
          exact ih97 (z_20) _ _ ls (by show (52 - z_20.toInt).toNat < (52 - i_14.toInt).toNat; omega) ⟨(show i_1.toInt ≤ z_20.toInt ∧ z_20.toInt ≤ 52 from ⟨by omega, by omega⟩), hP.sub [0, 1] rfl, rfl, rfl, lv_sub hl [1, 0, 2, 3] rfl⟩
      · have c_13 : r_12.toInt = 32 := ti_eq c_13
        have qc_13 : r_12 = 32 := ti_of (show r_12.toInt = 32 from by omega)
        refine lv_aload_n hx hb dX8_keyAt_82 rfl (lv_at hl 3 rfl) ?_
        refine va_get (D := D) (ci := 7) (v := .int (mf 7)) (C := RX8) (T := TX8) (N := 33) hx hb hts inlX8 hown hK hP 0 rfl rfl 7 (by decide) (hts _ mwn_301) (fun _ h9 => h9) rfl dX8_keyAt_83 ?_
        refine lv_iload_n hx hb dX8_keyAt_86 rfl (lv_at hl 0 rfl) ?_
        refine lv_iadd hx hb dX8_keyAt_87 ?_
        refine lv_topi (fun z_21 ez_21 => ?_)
        have tz_21 : z_21.toInt = (mf 7).toInt + i_6.toInt := by rw [ez_21]; exact ti_add (by omega) (by omega)
        refine lv_aload_n hx hb dX8_keyAt_88 rfl (lv_at hl 3 rfl) ?_
        refine va_get (D := D) (ci := 7) (v := .int (mf 8)) (C := RX8) (T := TX8) (N := 33) hx hb hts inlX8 hown hK hP 0 rfl rfl 8 (by decide) (hts _ mwn_288) (fun _ h9 => h9) rfl dX8_keyAt_89 ?_
        refine lv_icmp_ne (tgt := 97) hx hb dX8_keyAt_92 (by decide) (fun c_22 => ?_) (fun c_22 => ?_)
        · have c_22 : z_21.toInt ≠ (mf 8).toInt := ti_ne c_22
          refine W_loop (σ := Int32) (fun xx H locs ls => (i_1.toInt ≤ xx.toInt ∧ xx.toInt ≤ 52) ∧ va_P D vwCl [((mm 0), .inr (7, [.int (mf 0), .ref (mm 1), .ref (mm 2), .ref (mm 3), .ref (mm 4), .ref (mm 5), .int (mf 6), .int (mf 7), .int (mf 8), .int (mf 9), .int (mf 10), .int (mf 11), .int (mf 12), .int (mf 13), .int (mf 14), .int (mf 15), .int (mf 16), .ref (mm 6), .int (mf 18), .ref (mm 7), .ref (mm 8), .ref (mm 9), .int (mf 22), .ref (mm 10), .ref (mm 11), .int (mf 25), .int (mf 26), .ref (mm 12), .ref (mm 13), .int (mf 29), .ref (mm 14), .ref (mm 15), .ref (mm 16)])), ((mm 4), .inl (k 0, 900, .inl tf))] H ∧ H = s.heap ∧ locs = [] ∧ lv_has ls 4 [(3, .int i_6), (2, .int xx), (1, .int y_2), (0, .ref (mm 0))]) (fun xx => (52 - xx.toInt).toNat) ?_ (i_1) _ _ ls ⟨(show i_1.toInt ≤ i_1.toInt ∧ i_1.toInt ≤ 52 from ⟨by omega, by omega⟩), hP.sub [0, 1] rfl, rfl, rfl, lv_sub hl [0, 1, 2, 3] rfl⟩
          intro xx H locs ls hI ih97
          obtain ⟨i_23, rfl⟩ : ∃ z, z = xx := ⟨_, rfl⟩
          obtain ⟨h_24, hP, rfl, rfl, hl⟩ := hI
          replace h_24 : i_1.toInt ≤ i_23.toInt ∧ i_23.toInt ≤ 52 := h_24
          obtain ⟨h_24a, h_24b⟩ := h_24
          replace hP : va_P D vwCl [((mm 0), .inr (7, [.int (mf 0), .ref (mm 1), .ref (mm 2), .ref (mm 3), .ref (mm 4), .ref (mm 5), .int (mf 6), .int (mf 7), .int (mf 8), .int (mf 9), .int (mf 10), .int (mf 11), .int (mf 12), .int (mf 13), .int (mf 14), .int (mf 15), .int (mf 16), .ref (mm 6), .int (mf 18), .ref (mm 7), .ref (mm 8), .ref (mm 9), .int (mf 22), .ref (mm 10), .ref (mm 11), .int (mf 25), .int (mf 26), .ref (mm 12), .ref (mm 13), .int (mf 29), .ref (mm 14), .ref (mm 15), .ref (mm 16)])), ((mm 4), .inl (k 0, 900, .inl tf))] s.heap := hP
          replace hl : lv_has ls 4 [(3, .int i_6), (2, .int i_23), (1, .int y_2), (0, .ref (mm 0))] := hl
          refine va_ldcS (own := RX8) (index := 77) (tx := " roof reed straw wet mice spark slate ring deep odds ") (q := ak 10) hx hb hown (hW0.2.2.2 10 (by decide)) dX8_keyAt_97 ?_
          refine lv_iload_n hx hb dX8_keyAt_99 rfl (lv_at hl 1 rfl) ?_
          refine kT_is (As := [.int i_23]) (rest := []) ⟨hx, hb, hml, hown, hts⟩ (s_S_charAtK l D k ak av i_23 (show 0 ≤ i_23.toInt from by omega) (show i_23.toInt < 53 from by omega)) (gV mwn_315 mwn_202 mwn_203 mwn_192 mwn_204) hdn_yJ0_charAt_5068e rfl rfl ⟨Nat.le_of_ble_eq_true rfl, Nat.le_of_ble_eq_true rfl⟩ hK hN0 hW0 hS (hP.sub [] rfl) (by omega) rfl rfl hl.1 rfl (Nat.le_of_ble_eq_true rfl) dX8_keyAt_100 ⟨Nat.le_of_ble_eq_true rfl, Nat.le_of_ble_eq_true rfl⟩ (fun r_25 hr_25 => ?_)
          replace hr_25 : r_25.toInt = 32 ∨ i_23.toInt < 52 := hr_25
          refine lv_bipush (v := 32) hx hb dX8_keyAt_103 (by decide) ?_
          refine lv_icmp_eq (tgt := 114) hx hb dX8_keyAt_105 (by decide) (fun c_26 => ?_) (fun c_26 => ?_)
          · have c_26 : r_25.toInt = 32 := ti_eq c_26
            have qc_26 : r_25 = 32 := ti_of (show r_25.toInt = 32 from by omega)
            obtain ⟨z_27, ez_27⟩ : ∃ y : Int32, y = i_23 + 1 := ⟨_, rfl⟩
            have tz_27 : z_27.toInt = i_23.toInt + 1 := by rw [ez_27]; exact ti_addc (by decide) (by omega) (by omega)
            refine lv_iinc (v := z_27) (lv' := [(2, .int z_27), (3, .int i_6), (1, .int y_2), (0, .ref (mm 0))]) hx hb dX8_keyAt_114 hl (k := 1) rfl (ez_27.symm) (by decide) rfl (fun ls hl => ?_)
            obtain ⟨z_28, ez_28⟩ : ∃ y : Int32, y = y_2 + 1 := ⟨_, rfl⟩
            refine lv_iinc (v := z_28) (lv' := [(1, .int z_28), (2, .int z_27), (3, .int i_6), (0, .ref (mm 0))]) hx hb dX8_keyAt_117 hl (k := 2) rfl (ez_28.symm) (by decide) rfl (fun ls hl => ?_)
            refine lv_goto (tgt := 4) hx hb dX8_keyAt_120 (by decide) ?_
            exact ih4 (z_27, z_28) _ _ ls (by show (53 - z_27.toInt).toNat < (53 - i_1.toInt).toNat; omega) ⟨(show 1 ≤ z_27.toInt ∧ z_27.toInt ≤ 53 from ⟨by omega, by omega⟩), hP.sub [0, 1] rfl, rfl, rfl, lv_sub hl [1, 0, 3] rfl⟩
          · have c_26 : r_25.toInt ≠ 32 := ti_ne c_26
            obtain ⟨z_29, ez_29⟩ : ∃ y : Int32, y = i_23 + 1 := ⟨_, rfl⟩
            have tz_29 : z_29.toInt = i_23.toInt + 1 := by rw [ez_29]; exact ti_addc (by decide) (by omega) (by omega)
            refine lv_iinc (v := z_29) (lv' := [(2, .int z_29), (3, .int i_6), (1, .int y_2), (0, .ref (mm 0))]) hx hb dX8_keyAt_108 hl (k := 1) rfl (ez_29.symm) (by decide) rfl (fun ls hl => ?_)
            refine lv_goto (tgt := 97) hx hb dX8_keyAt_111 (by decide) ?_
            exact ih97 (z_29) _ _ ls (by show (52 - z_29.toInt).toNat < (52 - i_23.toInt).toNat; omega) ⟨(show i_1.toInt ≤ z_29.toInt ∧ z_29.toInt ≤ 52 from ⟨by omega, by omega⟩), hP.sub [0, 1] rfl, rfl, rfl, lv_sub hl [1, 0, 2, 3] rfl⟩
        · have c_22 : z_21.toInt = (mf 8).toInt := ti_eq c_22
          refine lv_iload_n hx hb dX8_keyAt_95 rfl (lv_at hl 2 rfl) ?_
          exact W.iret (v := y_2) hx hb hr (fun t ht hW => ⟨y_2, rfl, trivial, ht⟩) (fun q h => by cases h) dX8_keyAt_96
    · have c_10 : r_9.toInt ≠ 32 := ti_ne c_10
      refine lv_aload_n hx hb dX8_keyAt_28 rfl (lv_at hl 3 rfl) ?_
      refine va_get (D := D) (ci := 7) (v := .int (mf 7)) (C := RX8) (T := TX8) (N := 33) hx hb hts inlX8 hown hK hP 0 rfl rfl 7 (by decide) (hts _ mwn_301) (fun _ h9 => h9) rfl dX8_keyAt_29 ?_
      refine lv_iload_n hx hb dX8_keyAt_32 rfl (lv_at hl 0 rfl) ?_
      refine lv_iadd hx hb dX8_keyAt_33 ?_
      refine lv_topi (fun z_30 ez_30 => ?_)
      have tz_30 : z_30.toInt = (mf 7).toInt + i_6.toInt := by rw [ez_30]; exact ti_add (by omega) (by omega)
      refine lv_aload_n hx hb dX8_keyAt_34 rfl (lv_at hl 3 rfl) ?_
      refine va_get (D := D) (ci := 7) (v := .int (mf 8)) (C := RX8) (T := TX8) (N := 33) hx hb hts inlX8 hown hK hP 0 rfl rfl 8 (by decide) (hts _ mwn_288) (fun _ h9 => h9) rfl dX8_keyAt_35 ?_
      refine lv_icmp_ge (tgt := 69) hx hb dX8_keyAt_38 (by decide) (fun c_31 => ?_) (fun c_31 => ?_)
      · have c_31 : (mf 8).toInt ≤ z_30.toInt := ti_le c_31
        refine va_ldcS (own := RX8) (index := 77) (tx := " roof reed straw wet mice spark slate ring deep odds ") (q := ak 10) hx hb hown (hW0.2.2.2 10 (by decide)) dX8_keyAt_69 ?_
        refine lv_iload_n hx hb dX8_keyAt_71 rfl (lv_at hl 1 rfl) ?_
        refine lv_iload_n hx hb dX8_keyAt_72 rfl (lv_at hl 0 rfl) ?_
        refine lv_iadd hx hb dX8_keyAt_73 ?_
        refine lv_topi (fun z_32 ez_32 => ?_)
        have tz_32 : z_32.toInt = i_1.toInt + i_6.toInt := by rw [ez_32]; exact ti_add (by omega) (by omega)
        refine kT_is (As := [.int z_32]) (rest := []) ⟨hx, hb, hml, hown, hts⟩ (s_S_charAtK l D k ak av z_32 (show 0 ≤ z_32.toInt from by omega) (show z_32.toInt < 53 from by omega)) (gV mwn_315 mwn_202 mwn_203 mwn_192 mwn_204) hdn_yJ0_charAt_5068e rfl rfl ⟨Nat.le_of_ble_eq_true rfl, Nat.le_of_ble_eq_true rfl⟩ hK hN0 hW0 hS (hP.sub [] rfl) (by omega) rfl rfl hl.1 rfl (Nat.le_of_ble_eq_true rfl) dX8_keyAt_74 ⟨Nat.le_of_ble_eq_true rfl, Nat.le_of_ble_eq_true rfl⟩ (fun r_33 hr_33 => ?_)
        replace hr_33 : r_33.toInt = 32 ∨ z_32.toInt < 52 := hr_33
        refine lv_bipush (v := 32) hx hb dX8_keyAt_77 (by decide) ?_
        refine lv_icmp_ne (tgt := 97) hx hb dX8_keyAt_79 (by decide) (fun c_34 => ?_) (fun c_34 => ?_)
        · have c_34 : r_33.toInt ≠ 32 := ti_ne c_34
          refine W_loop (σ := Int32) (fun xx H locs ls => (i_1.toInt ≤ xx.toInt ∧ xx.toInt ≤ 52) ∧ va_P D vwCl [((mm 0), .inr (7, [.int (mf 0), .ref (mm 1), .ref (mm 2), .ref (mm 3), .ref (mm 4), .ref (mm 5), .int (mf 6), .int (mf 7), .int (mf 8), .int (mf 9), .int (mf 10), .int (mf 11), .int (mf 12), .int (mf 13), .int (mf 14), .int (mf 15), .int (mf 16), .ref (mm 6), .int (mf 18), .ref (mm 7), .ref (mm 8), .ref (mm 9), .int (mf 22), .ref (mm 10), .ref (mm 11), .int (mf 25), .int (mf 26), .ref (mm 12), .ref (mm 13), .int (mf 29), .ref (mm 14), .ref (mm 15), .ref (mm 16)])), ((mm 4), .inl (k 0, 900, .inl tf))] H ∧ H = s.heap ∧ locs = [] ∧ lv_has ls 4 [(3, .int i_6), (2, .int xx), (1, .int y_2), (0, .ref (mm 0))]) (fun xx => (52 - xx.toInt).toNat) ?_ (i_1) _ _ ls ⟨(show i_1.toInt ≤ i_1.toInt ∧ i_1.toInt ≤ 52 from ⟨by omega, by omega⟩), hP.sub [0, 1] rfl, rfl, rfl, lv_sub hl [0, 1, 2, 3] rfl⟩
          intro xx H locs ls hI ih97
          obtain ⟨i_35, rfl⟩ : ∃ z, z = xx := ⟨_, rfl⟩
          obtain ⟨h_36, hP, rfl, rfl, hl⟩ := hI
          replace h_36 : i_1.toInt ≤ i_35.toInt ∧ i_35.toInt ≤ 52 := h_36
          obtain ⟨h_36a, h_36b⟩ := h_36
          replace hP : va_P D vwCl [((mm 0), .inr (7, [.int (mf 0), .ref (mm 1), .ref (mm 2), .ref (mm 3), .ref (mm 4), .ref (mm 5), .int (mf 6), .int (mf 7), .int (mf 8), .int (mf 9), .int (mf 10), .int (mf 11), .int (mf 12), .int (mf 13), .int (mf 14), .int (mf 15), .int (mf 16), .ref (mm 6), .int (mf 18), .ref (mm 7), .ref (mm 8), .ref (mm 9), .int (mf 22), .ref (mm 10), .ref (mm 11), .int (mf 25), .int (mf 26), .ref (mm 12), .ref (mm 13), .int (mf 29), .ref (mm 14), .ref (mm 15), .ref (mm 16)])), ((mm 4), .inl (k 0, 900, .inl tf))] s.heap := hP
          replace hl : lv_has ls 4 [(3, .int i_6), (2, .int i_35), (1, .int y_2), (0, .ref (mm 0))] := hl
          refine va_ldcS (own := RX8) (index := 77) (tx := " roof reed straw wet mice spark slate ring deep odds ") (q := ak 10) hx hb hown (hW0.2.2.2 10 (by decide)) dX8_keyAt_97 ?_
          refine lv_iload_n hx hb dX8_keyAt_99 rfl (lv_at hl 1 rfl) ?_
          refine kT_is (As := [.int i_35]) (rest := []) ⟨hx, hb, hml, hown, hts⟩ (s_S_charAtK l D k ak av i_35 (show 0 ≤ i_35.toInt from by omega) (show i_35.toInt < 53 from by omega)) (gV mwn_315 mwn_202 mwn_203 mwn_192 mwn_204) hdn_yJ0_charAt_5068e rfl rfl ⟨Nat.le_of_ble_eq_true rfl, Nat.le_of_ble_eq_true rfl⟩ hK hN0 hW0 hS (hP.sub [] rfl) (by omega) rfl rfl hl.1 rfl (Nat.le_of_ble_eq_true rfl) dX8_keyAt_100 ⟨Nat.le_of_ble_eq_true rfl, Nat.le_of_ble_eq_true rfl⟩ (fun r_37 hr_37 => ?_)
          replace hr_37 : r_37.toInt = 32 ∨ i_35.toInt < 52 := hr_37
          refine lv_bipush (v := 32) hx hb dX8_keyAt_103 (by decide) ?_
          refine lv_icmp_eq (tgt := 114) hx hb dX8_keyAt_105 (by decide) (fun c_38 => ?_) (fun c_38 => ?_)
          · have c_38 : r_37.toInt = 32 := ti_eq c_38
            have qc_38 : r_37 = 32 := ti_of (show r_37.toInt = 32 from by omega)
            obtain ⟨z_39, ez_39⟩ : ∃ y : Int32, y = i_35 + 1 := ⟨_, rfl⟩
            have tz_39 : z_39.toInt = i_35.toInt + 1 := by rw [ez_39]; exact ti_addc (by decide) (by omega) (by omega)
            refine lv_iinc (v := z_39) (lv' := [(2, .int z_39), (3, .int i_6), (1, .int y_2), (0, .ref (mm 0))]) hx hb dX8_keyAt_114 hl (k := 1) rfl (ez_39.symm) (by decide) rfl (fun ls hl => ?_)
            obtain ⟨z_40, ez_40⟩ : ∃ y : Int32, y = y_2 + 1 := ⟨_, rfl⟩
            refine lv_iinc (v := z_40) (lv' := [(1, .int z_40), (2, .int z_39), (3, .int i_6), (0, .ref (mm 0))]) hx hb dX8_keyAt_117 hl (k := 2) rfl (ez_40.symm) (by decide) rfl (fun ls hl => ?_)
            refine lv_goto (tgt := 4) hx hb dX8_keyAt_120 (by decide) ?_
            exact ih4 (z_39, z_40) _ _ ls (by show (53 - z_39.toInt).toNat < (53 - i_1.toInt).toNat; omega) ⟨(show 1 ≤ z_39.toInt ∧ z_39.toInt ≤ 53 from ⟨by omega, by omega⟩), hP.sub [0, 1] rfl, rfl, rfl, lv_sub hl [1, 0, 3] rfl⟩
          · have c_38 : r_37.toInt ≠ 32 := ti_ne c_38
            obtain ⟨z_41, ez_41⟩ : ∃ y : Int32, y = i_35 + 1 := ⟨_, rfl⟩
            have tz_41 : z_41.toInt = i_35.toInt + 1 := by rw [ez_41]; exact ti_addc (by decide) (by omega) (by omega)
            refine lv_iinc (v := z_41) (lv' := [(2, .int z_41), (3, .int i_6), (1, .int y_2), (0, .ref (mm 0))]) hx hb dX8_keyAt_108 hl (k := 1) rfl (ez_41.symm) (by decide) rfl (fun ls hl => ?_)
            refine lv_goto (tgt := 97) hx hb dX8_keyAt_111 (by decide) ?_
            exact ih97 (z_41) _ _ ls (by show (52 - z_41.toInt).toNat < (52 - i_35.toInt).toNat; omega) ⟨(show i_1.toInt ≤ z_41.toInt ∧ z_41.toInt ≤ 52 from ⟨by omega, by omega⟩), hP.sub [0, 1] rfl, rfl, rfl, lv_sub hl [1, 0, 2, 3] rfl⟩
        · have c_34 : r_33.toInt = 32 := ti_eq c_34
          have qc_34 : r_33 = 32 := ti_of (show r_33.toInt = 32 from by omega)
          refine lv_aload_n hx hb dX8_keyAt_82 rfl (lv_at hl 3 rfl) ?_
          refine va_get (D := D) (ci := 7) (v := .int (mf 7)) (C := RX8) (T := TX8) (N := 33) hx hb hts inlX8 hown hK hP 0 rfl rfl 7 (by decide) (hts _ mwn_301) (fun _ h9 => h9) rfl dX8_keyAt_83 ?_
          refine lv_iload_n hx hb dX8_keyAt_86 rfl (lv_at hl 0 rfl) ?_
          refine lv_iadd hx hb dX8_keyAt_87 ?_
          refine lv_topi (fun z_42 ez_42 => ?_)
          have tz_42 : z_42.toInt = (mf 7).toInt + i_6.toInt := by rw [ez_42]; exact ti_add (by omega) (by omega)
          refine lv_aload_n hx hb dX8_keyAt_88 rfl (lv_at hl 3 rfl) ?_
          refine va_get (D := D) (ci := 7) (v := .int (mf 8)) (C := RX8) (T := TX8) (N := 33) hx hb hts inlX8 hown hK hP 0 rfl rfl 8 (by decide) (hts _ mwn_288) (fun _ h9 => h9) rfl dX8_keyAt_89 ?_
          refine lv_icmp_ne (tgt := 97) hx hb dX8_keyAt_92 (by decide) (fun c_43 => ?_) (fun c_43 => ?_)
          · have c_43 : z_42.toInt ≠ (mf 8).toInt := ti_ne c_43
            refine W_loop (σ := Int32) (fun xx H locs ls => (i_1.toInt ≤ xx.toInt ∧ xx.toInt ≤ 52) ∧ va_P D vwCl [((mm 0), .inr (7, [.int (mf 0), .ref (mm 1), .ref (mm 2), .ref (mm 3), .ref (mm 4), .ref (mm 5), .int (mf 6), .int (mf 7), .int (mf 8), .int (mf 9), .int (mf 10), .int (mf 11), .int (mf 12), .int (mf 13), .int (mf 14), .int (mf 15), .int (mf 16), .ref (mm 6), .int (mf 18), .ref (mm 7), .ref (mm 8), .ref (mm 9), .int (mf 22), .ref (mm 10), .ref (mm 11), .int (mf 25), .int (mf 26), .ref (mm 12), .ref (mm 13), .int (mf 29), .ref (mm 14), .ref (mm 15), .ref (mm 16)])), ((mm 4), .inl (k 0, 900, .inl tf))] H ∧ H = s.heap ∧ locs = [] ∧ lv_has ls 4 [(3, .int i_6), (2, .int xx), (1, .int y_2), (0, .ref (mm 0))]) (fun xx => (52 - xx.toInt).toNat) ?_ (i_1) _ _ ls ⟨(show i_1.toInt ≤ i_1.toInt ∧ i_1.toInt ≤ 52 from ⟨by omega, by omega⟩), hP.sub [0, 1] rfl, rfl, rfl, lv_sub hl [0, 1, 2, 3] rfl⟩
            intro xx H locs ls hI ih97
            obtain ⟨i_44, rfl⟩ : ∃ z, z = xx := ⟨_, rfl⟩
            obtain ⟨h_45, hP, rfl, rfl, hl⟩ := hI
            replace h_45 : i_1.toInt ≤ i_44.toInt ∧ i_44.toInt ≤ 52 := h_45
            obtain ⟨h_45a, h_45b⟩ := h_45
            replace hP : va_P D vwCl [((mm 0), .inr (7, [.int (mf 0), .ref (mm 1), .ref (mm 2), .ref (mm 3), .ref (mm 4), .ref (mm 5), .int (mf 6), .int (mf 7), .int (mf 8), .int (mf 9), .int (mf 10), .int (mf 11), .int (mf 12), .int (mf 13), .int (mf 14), .int (mf 15), .int (mf 16), .ref (mm 6), .int (mf 18), .ref (mm 7), .ref (mm 8), .ref (mm 9), .int (mf 22), .ref (mm 10), .ref (mm 11), .int (mf 25), .int (mf 26), .ref (mm 12), .ref (mm 13), .int (mf 29), .ref (mm 14), .ref (mm 15), .ref (mm 16)])), ((mm 4), .inl (k 0, 900, .inl tf))] s.heap := hP
            replace hl : lv_has ls 4 [(3, .int i_6), (2, .int i_44), (1, .int y_2), (0, .ref (mm 0))] := hl
            refine va_ldcS (own := RX8) (index := 77) (tx := " roof reed straw wet mice spark slate ring deep odds ") (q := ak 10) hx hb hown (hW0.2.2.2 10 (by decide)) dX8_keyAt_97 ?_
            refine lv_iload_n hx hb dX8_keyAt_99 rfl (lv_at hl 1 rfl) ?_
            refine kT_is (As := [.int i_44]) (rest := []) ⟨hx, hb, hml, hown, hts⟩ (s_S_charAtK l D k ak av i_44 (show 0 ≤ i_44.toInt from by omega) (show i_44.toInt < 53 from by omega)) (gV mwn_315 mwn_202 mwn_203 mwn_192 mwn_204) hdn_yJ0_charAt_5068e rfl rfl ⟨Nat.le_of_ble_eq_true rfl, Nat.le_of_ble_eq_true rfl⟩ hK hN0 hW0 hS (hP.sub [] rfl) (by omega) rfl rfl hl.1 rfl (Nat.le_of_ble_eq_true rfl) dX8_keyAt_100 ⟨Nat.le_of_ble_eq_true rfl, Nat.le_of_ble_eq_true rfl⟩ (fun r_46 hr_46 => ?_)
            replace hr_46 : r_46.toInt = 32 ∨ i_44.toInt < 52 := hr_46
            refine lv_bipush (v := 32) hx hb dX8_keyAt_103 (by decide) ?_
            refine lv_icmp_eq (tgt := 114) hx hb dX8_keyAt_105 (by decide) (fun c_47 => ?_) (fun c_47 => ?_)
            · have c_47 : r_46.toInt = 32 := ti_eq c_47
              have qc_47 : r_46 = 32 := ti_of (show r_46.toInt = 32 from by omega)
              obtain ⟨z_48, ez_48⟩ : ∃ y : Int32, y = i_44 + 1 := ⟨_, rfl⟩
              have tz_48 : z_48.toInt = i_44.toInt + 1 := by rw [ez_48]; exact ti_addc (by decide) (by omega) (by omega)
              refine lv_iinc (v := z_48) (lv' := [(2, .int z_48), (3, .int i_6), (1, .int y_2), (0, .ref (mm 0))]) hx hb dX8_keyAt_114 hl (k := 1) rfl (ez_48.symm) (by decide) rfl (fun ls hl => ?_)
              obtain ⟨z_49, ez_49⟩ : ∃ y : Int32, y = y_2 + 1 := ⟨_, rfl⟩
              refine lv_iinc (v := z_49) (lv' := [(1, .int z_49), (2, .int z_48), (3, .int i_6), (0, .ref (mm 0))]) hx hb dX8_keyAt_117 hl (k := 2) rfl (ez_49.symm) (by decide) rfl (fun ls hl => ?_)
              refine lv_goto (tgt := 4) hx hb dX8_keyAt_120 (by decide) ?_
              exact ih4 (z_48, z_49) _ _ ls (by show (53 - z_48.toInt).toNat < (53 - i_1.toInt).toNat; omega) ⟨(show 1 ≤ z_48.toInt ∧ z_48.toInt ≤ 53 from ⟨by omega, by omega⟩), hP.sub [0, 1] rfl, rfl, rfl, lv_sub hl [1, 0, 3] rfl⟩
            · have c_47 : r_46.toInt ≠ 32 := ti_ne c_47
              obtain ⟨z_50, ez_50⟩ : ∃ y : Int32, y = i_44 + 1 := ⟨_, rfl⟩
              have tz_50 : z_50.toInt = i_44.toInt + 1 := by rw [ez_50]; exact ti_addc (by decide) (by omega) (by omega)
              refine lv_iinc (v := z_50) (lv' := [(2, .int z_50), (3, .int i_6), (1, .int y_2), (0, .ref (mm 0))]) hx hb dX8_keyAt_108 hl (k := 1) rfl (ez_50.symm) (by decide) rfl (fun ls hl => ?_)
              refine lv_goto (tgt := 97) hx hb dX8_keyAt_111 (by decide) ?_
              exact ih97 (z_50) _ _ ls (by show (52 - z_50.toInt).toNat < (52 - i_44.toInt).toNat; omega) ⟨(show i_1.toInt ≤ z_50.toInt ∧ z_50.toInt ≤ 52 from ⟨by omega, by omega⟩), hP.sub [0, 1] rfl, rfl, rfl, lv_sub hl [1, 0, 2, 3] rfl⟩
          · have c_43 : z_42.toInt = (mf 8).toInt := ti_eq c_43
            refine lv_iload_n hx hb dX8_keyAt_95 rfl (lv_at hl 2 rfl) ?_
            exact W.iret (v := y_2) hx hb hr (fun t ht hW => ⟨y_2, rfl, trivial, ht⟩) (fun q h => by cases h) dX8_keyAt_96
      · have c_31 : z_30.toInt < (mf 8).toInt := ti_nle c_31
        refine lv_aload_n hx hb dX8_keyAt_41 rfl (lv_at hl 3 rfl) ?_
        refine va_get (D := D) (ci := 7) (v := .ref (mm 4)) (C := RX8) (T := TX8) (N := 33) hx hb hts inlX8 hown hK hP 0 rfl rfl 4 (by decide) (hts _ mwn_94) (fun _ h9 => h9) rfl dX8_keyAt_42 ?_
        refine lv_aload_n hx hb dX8_keyAt_45 rfl (lv_at hl 3 rfl) ?_
        refine va_get (D := D) (ci := 7) (v := .int (mf 7)) (C := RX8) (T := TX8) (N := 33) hx hb hts inlX8 hown hK hP 0 rfl rfl 7 (by decide) (hts _ mwn_301) (fun _ h9 => h9) rfl dX8_keyAt_46 ?_
        refine lv_iload_n hx hb dX8_keyAt_49 rfl (lv_at hl 0 rfl) ?_
        refine lv_iadd hx hb dX8_keyAt_50 ?_
        refine lv_topi (fun z_51 ez_51 => ?_)
        have tz_51 : z_51.toInt = (mf 7).toInt + i_6.toInt := by rw [ez_51]; exact ti_add (by omega) (by omega)
        refine va_iald hx hb hK hP 1 0 rfl rfl (vp_in_o (by omega) (by omega)) dX8_keyAt_51 ?_
        refine lv_topi (fun z_52 ez_52 => ?_)
        refine va_ldcS (own := RX8) (index := 77) (tx := " roof reed straw wet mice spark slate ring deep odds ") (q := ak 10) hx hb hown (hW0.2.2.2 10 (by decide)) dX8_keyAt_52 ?_
        refine lv_iload_n hx hb dX8_keyAt_54 rfl (lv_at hl 1 rfl) ?_
        refine lv_iload_n hx hb dX8_keyAt_55 rfl (lv_at hl 0 rfl) ?_
        refine lv_iadd hx hb dX8_keyAt_56 ?_
        refine lv_topi (fun z_53 ez_53 => ?_)
        have tz_53 : z_53.toInt = i_1.toInt + i_6.toInt := by rw [ez_53]; exact ti_add (by omega) (by omega)
        refine kT_is (As := [.int z_53]) (rest := [.int z_52]) ⟨hx, hb, hml, hown, hts⟩ (s_S_charAtK l D k ak av z_53 (show 0 ≤ z_53.toInt from by omega) (show z_53.toInt < 53 from by omega)) (gV mwn_315 mwn_202 mwn_203 mwn_192 mwn_204) hdn_yJ0_charAt_5068e rfl rfl ⟨Nat.le_of_ble_eq_true rfl, Nat.le_of_ble_eq_true rfl⟩ hK hN0 hW0 hS (hP.sub [] rfl) (by omega) rfl rfl hl.1 rfl (Nat.le_of_ble_eq_true rfl) dX8_keyAt_57 ⟨Nat.le_of_ble_eq_true rfl, Nat.le_of_ble_eq_true rfl⟩ (fun r_54 hr_54 => ?_)
        replace hr_54 : r_54.toInt = 32 ∨ z_53.toInt < 52 := hr_54
        refine lv_icmp_ne (tgt := 69) hx hb dX8_keyAt_60 (by decide) (fun c_55 => ?_) (fun c_55 => ?_)
        · have c_55 : z_52.toInt ≠ r_54.toInt := ti_ne c_55
          refine va_ldcS (own := RX8) (index := 77) (tx := " roof reed straw wet mice spark slate ring deep odds ") (q := ak 10) hx hb hown (hW0.2.2.2 10 (by decide)) dX8_keyAt_69 ?_
          refine lv_iload_n hx hb dX8_keyAt_71 rfl (lv_at hl 1 rfl) ?_
          refine lv_iload_n hx hb dX8_keyAt_72 rfl (lv_at hl 0 rfl) ?_
          refine lv_iadd hx hb dX8_keyAt_73 ?_
          refine lv_topi (fun z_56 ez_56 => ?_)
          have tz_56 : z_56.toInt = i_1.toInt + i_6.toInt := by rw [ez_56]; exact ti_add (by omega) (by omega)
          refine kT_is (As := [.int z_56]) (rest := []) ⟨hx, hb, hml, hown, hts⟩ (s_S_charAtK l D k ak av z_56 (show 0 ≤ z_56.toInt from by omega) (show z_56.toInt < 53 from by omega)) (gV mwn_315 mwn_202 mwn_203 mwn_192 mwn_204) hdn_yJ0_charAt_5068e rfl rfl ⟨Nat.le_of_ble_eq_true rfl, Nat.le_of_ble_eq_true rfl⟩ hK hN0 hW0 hS (hP.sub [] rfl) (by omega) rfl rfl hl.1 rfl (Nat.le_of_ble_eq_true rfl) dX8_keyAt_74 ⟨Nat.le_of_ble_eq_true rfl, Nat.le_of_ble_eq_true rfl⟩ (fun r_57 hr_57 => ?_)
          replace hr_57 : r_57.toInt = 32 ∨ z_56.toInt < 52 := hr_57
          refine lv_bipush (v := 32) hx hb dX8_keyAt_77 (by decide) ?_
          refine lv_icmp_ne (tgt := 97) hx hb dX8_keyAt_79 (by decide) (fun c_58 => ?_) (fun c_58 => ?_)
          · have c_58 : r_57.toInt ≠ 32 := ti_ne c_58
            refine W_loop (σ := Int32) (fun xx H locs ls => (i_1.toInt ≤ xx.toInt ∧ xx.toInt ≤ 52) ∧ va_P D vwCl [((mm 0), .inr (7, [.int (mf 0), .ref (mm 1), .ref (mm 2), .ref (mm 3), .ref (mm 4), .ref (mm 5), .int (mf 6), .int (mf 7), .int (mf 8), .int (mf 9), .int (mf 10), .int (mf 11), .int (mf 12), .int (mf 13), .int (mf 14), .int (mf 15), .int (mf 16), .ref (mm 6), .int (mf 18), .ref (mm 7), .ref (mm 8), .ref (mm 9), .int (mf 22), .ref (mm 10), .ref (mm 11), .int (mf 25), .int (mf 26), .ref (mm 12), .ref (mm 13), .int (mf 29), .ref (mm 14), .ref (mm 15), .ref (mm 16)])), ((mm 4), .inl (k 0, 900, .inl tf))] H ∧ H = s.heap ∧ locs = [] ∧ lv_has ls 4 [(3, .int i_6), (2, .int xx), (1, .int y_2), (0, .ref (mm 0))]) (fun xx => (52 - xx.toInt).toNat) ?_ (i_1) _ _ ls ⟨(show i_1.toInt ≤ i_1.toInt ∧ i_1.toInt ≤ 52 from ⟨by omega, by omega⟩), hP.sub [0, 1] rfl, rfl, rfl, lv_sub hl [0, 1, 2, 3] rfl⟩
            intro xx H locs ls hI ih97
            obtain ⟨i_59, rfl⟩ : ∃ z, z = xx := ⟨_, rfl⟩
            obtain ⟨h_60, hP, rfl, rfl, hl⟩ := hI
            replace h_60 : i_1.toInt ≤ i_59.toInt ∧ i_59.toInt ≤ 52 := h_60
            obtain ⟨h_60a, h_60b⟩ := h_60
            replace hP : va_P D vwCl [((mm 0), .inr (7, [.int (mf 0), .ref (mm 1), .ref (mm 2), .ref (mm 3), .ref (mm 4), .ref (mm 5), .int (mf 6), .int (mf 7), .int (mf 8), .int (mf 9), .int (mf 10), .int (mf 11), .int (mf 12), .int (mf 13), .int (mf 14), .int (mf 15), .int (mf 16), .ref (mm 6), .int (mf 18), .ref (mm 7), .ref (mm 8), .ref (mm 9), .int (mf 22), .ref (mm 10), .ref (mm 11), .int (mf 25), .int (mf 26), .ref (mm 12), .ref (mm 13), .int (mf 29), .ref (mm 14), .ref (mm 15), .ref (mm 16)])), ((mm 4), .inl (k 0, 900, .inl tf))] s.heap := hP
            replace hl : lv_has ls 4 [(3, .int i_6), (2, .int i_59), (1, .int y_2), (0, .ref (mm 0))] := hl
            refine va_ldcS (own := RX8) (index := 77) (tx := " roof reed straw wet mice spark slate ring deep odds ") (q := ak 10) hx hb hown (hW0.2.2.2 10 (by decide)) dX8_keyAt_97 ?_
            refine lv_iload_n hx hb dX8_keyAt_99 rfl (lv_at hl 1 rfl) ?_
            refine kT_is (As := [.int i_59]) (rest := []) ⟨hx, hb, hml, hown, hts⟩ (s_S_charAtK l D k ak av i_59 (show 0 ≤ i_59.toInt from by omega) (show i_59.toInt < 53 from by omega)) (gV mwn_315 mwn_202 mwn_203 mwn_192 mwn_204) hdn_yJ0_charAt_5068e rfl rfl ⟨Nat.le_of_ble_eq_true rfl, Nat.le_of_ble_eq_true rfl⟩ hK hN0 hW0 hS (hP.sub [] rfl) (by omega) rfl rfl hl.1 rfl (Nat.le_of_ble_eq_true rfl) dX8_keyAt_100 ⟨Nat.le_of_ble_eq_true rfl, Nat.le_of_ble_eq_true rfl⟩ (fun r_61 hr_61 => ?_)
            replace hr_61 : r_61.toInt = 32 ∨ i_59.toInt < 52 := hr_61
            refine lv_bipush (v := 32) hx hb dX8_keyAt_103 (by decide) ?_
            refine lv_icmp_eq (tgt := 114) hx hb dX8_keyAt_105 (by decide) (fun c_62 => ?_) (fun c_62 => ?_)
            · have c_62 : r_61.toInt = 32 := ti_eq c_62
              have qc_62 : r_61 = 32 := ti_of (show r_61.toInt = 32 from by omega)
              obtain ⟨z_63, ez_63⟩ : ∃ y : Int32, y = i_59 + 1 := ⟨_, rfl⟩
              have tz_63 : z_63.toInt = i_59.toInt + 1 := by rw [ez_63]; exact ti_addc (by decide) (by omega) (by omega)
              refine lv_iinc (v := z_63) (lv' := [(2, .int z_63), (3, .int i_6), (1, .int y_2), (0, .ref (mm 0))]) hx hb dX8_keyAt_114 hl (k := 1) rfl (ez_63.symm) (by decide) rfl (fun ls hl => ?_)
              obtain ⟨z_64, ez_64⟩ : ∃ y : Int32, y = y_2 + 1 := ⟨_, rfl⟩
              refine lv_iinc (v := z_64) (lv' := [(1, .int z_64), (2, .int z_63), (3, .int i_6), (0, .ref (mm 0))]) hx hb dX8_keyAt_117 hl (k := 2) rfl (ez_64.symm) (by decide) rfl (fun ls hl => ?_)
              refine lv_goto (tgt := 4) hx hb dX8_keyAt_120 (by decide) ?_
              exact ih4 (z_63, z_64) _ _ ls (by show (53 - z_63.toInt).toNat < (53 - i_1.toInt).toNat; omega) ⟨(show 1 ≤ z_63.toInt ∧ z_63.toInt ≤ 53 from ⟨by omega, by omega⟩), hP.sub [0, 1] rfl, rfl, rfl, lv_sub hl [1, 0, 3] rfl⟩
            · have c_62 : r_61.toInt ≠ 32 := ti_ne c_62
              obtain ⟨z_65, ez_65⟩ : ∃ y : Int32, y = i_59 + 1 := ⟨_, rfl⟩
              have tz_65 : z_65.toInt = i_59.toInt + 1 := by rw [ez_65]; exact ti_addc (by decide) (by omega) (by omega)
              refine lv_iinc (v := z_65) (lv' := [(2, .int z_65), (3, .int i_6), (1, .int y_2), (0, .ref (mm 0))]) hx hb dX8_keyAt_108 hl (k := 1) rfl (ez_65.symm) (by decide) rfl (fun ls hl => ?_)
              refine lv_goto (tgt := 97) hx hb dX8_keyAt_111 (by decide) ?_
              exact ih97 (z_65) _ _ ls (by show (52 - z_65.toInt).toNat < (52 - i_59.toInt).toNat; omega) ⟨(show i_1.toInt ≤ z_65.toInt ∧ z_65.toInt ≤ 52 from ⟨by omega, by omega⟩), hP.sub [0, 1] rfl, rfl, rfl, lv_sub hl [1, 0, 2, 3] rfl⟩
          · have c_58 : r_57.toInt = 32 := ti_eq c_58
            have qc_58 : r_57 = 32 := ti_of (show r_57.toInt = 32 from by omega)
            refine lv_aload_n hx hb dX8_keyAt_82 rfl (lv_at hl 3 rfl) ?_
            refine va_get (D := D) (ci := 7) (v := .int (mf 7)) (C := RX8) (T := TX8) (N := 33) hx hb hts inlX8 hown hK hP 0 rfl rfl 7 (by decide) (hts _ mwn_301) (fun _ h9 => h9) rfl dX8_keyAt_83 ?_
            refine lv_iload_n hx hb dX8_keyAt_86 rfl (lv_at hl 0 rfl) ?_
            refine lv_iadd hx hb dX8_keyAt_87 ?_
            refine lv_topi (fun z_66 ez_66 => ?_)
            have tz_66 : z_66.toInt = (mf 7).toInt + i_6.toInt := by rw [ez_66]; exact ti_add (by omega) (by omega)
            refine lv_aload_n hx hb dX8_keyAt_88 rfl (lv_at hl 3 rfl) ?_
            refine va_get (D := D) (ci := 7) (v := .int (mf 8)) (C := RX8) (T := TX8) (N := 33) hx hb hts inlX8 hown hK hP 0 rfl rfl 8 (by decide) (hts _ mwn_288) (fun _ h9 => h9) rfl dX8_keyAt_89 ?_
            refine lv_icmp_ne (tgt := 97) hx hb dX8_keyAt_92 (by decide) (fun c_67 => ?_) (fun c_67 => ?_)
            · have c_67 : z_66.toInt ≠ (mf 8).toInt := ti_ne c_67
              refine W_loop (σ := Int32) (fun xx H locs ls => (i_1.toInt ≤ xx.toInt ∧ xx.toInt ≤ 52) ∧ va_P D vwCl [((mm 0), .inr (7, [.int (mf 0), .ref (mm 1), .ref (mm 2), .ref (mm 3), .ref (mm 4), .ref (mm 5), .int (mf 6), .int (mf 7), .int (mf 8), .int (mf 9), .int (mf 10), .int (mf 11), .int (mf 12), .int (mf 13), .int (mf 14), .int (mf 15), .int (mf 16), .ref (mm 6), .int (mf 18), .ref (mm 7), .ref (mm 8), .ref (mm 9), .int (mf 22), .ref (mm 10), .ref (mm 11), .int (mf 25), .int (mf 26), .ref (mm 12), .ref (mm 13), .int (mf 29), .ref (mm 14), .ref (mm 15), .ref (mm 16)])), ((mm 4), .inl (k 0, 900, .inl tf))] H ∧ H = s.heap ∧ locs = [] ∧ lv_has ls 4 [(3, .int i_6), (2, .int xx), (1, .int y_2), (0, .ref (mm 0))]) (fun xx => (52 - xx.toInt).toNat) ?_ (i_1) _ _ ls ⟨(show i_1.toInt ≤ i_1.toInt ∧ i_1.toInt ≤ 52 from ⟨by omega, by omega⟩), hP.sub [0, 1] rfl, rfl, rfl, lv_sub hl [0, 1, 2, 3] rfl⟩
              intro xx H locs ls hI ih97
              obtain ⟨i_68, rfl⟩ : ∃ z, z = xx := ⟨_, rfl⟩
              obtain ⟨h_69, hP, rfl, rfl, hl⟩ := hI
              replace h_69 : i_1.toInt ≤ i_68.toInt ∧ i_68.toInt ≤ 52 := h_69
              obtain ⟨h_69a, h_69b⟩ := h_69
              replace hP : va_P D vwCl [((mm 0), .inr (7, [.int (mf 0), .ref (mm 1), .ref (mm 2), .ref (mm 3), .ref (mm 4), .ref (mm 5), .int (mf 6), .int (mf 7), .int (mf 8), .int (mf 9), .int (mf 10), .int (mf 11), .int (mf 12), .int (mf 13), .int (mf 14), .int (mf 15), .int (mf 16), .ref (mm 6), .int (mf 18), .ref (mm 7), .ref (mm 8), .ref (mm 9), .int (mf 22), .ref (mm 10), .ref (mm 11), .int (mf 25), .int (mf 26), .ref (mm 12), .ref (mm 13), .int (mf 29), .ref (mm 14), .ref (mm 15), .ref (mm 16)])), ((mm 4), .inl (k 0, 900, .inl tf))] s.heap := hP
              replace hl : lv_has ls 4 [(3, .int i_6), (2, .int i_68), (1, .int y_2), (0, .ref (mm 0))] := hl
              refine va_ldcS (own := RX8) (index := 77) (tx := " roof reed straw wet mice spark slate ring deep odds ") (q := ak 10) hx hb hown (hW0.2.2.2 10 (by decide)) dX8_keyAt_97 ?_
              refine lv_iload_n hx hb dX8_keyAt_99 rfl (lv_at hl 1 rfl) ?_
              refine kT_is (As := [.int i_68]) (rest := []) ⟨hx, hb, hml, hown, hts⟩ (s_S_charAtK l D k ak av i_68 (show 0 ≤ i_68.toInt from by omega) (show i_68.toInt < 53 from by omega)) (gV mwn_315 mwn_202 mwn_203 mwn_192 mwn_204) hdn_yJ0_charAt_5068e rfl rfl ⟨Nat.le_of_ble_eq_true rfl, Nat.le_of_ble_eq_true rfl⟩ hK hN0 hW0 hS (hP.sub [] rfl) (by omega) rfl rfl hl.1 rfl (Nat.le_of_ble_eq_true rfl) dX8_keyAt_100 ⟨Nat.le_of_ble_eq_true rfl, Nat.le_of_ble_eq_true rfl⟩ (fun r_70 hr_70 => ?_)
              replace hr_70 : r_70.toInt = 32 ∨ i_68.toInt < 52 := hr_70
              refine lv_bipush (v := 32) hx hb dX8_keyAt_103 (by decide) ?_
              refine lv_icmp_eq (tgt := 114) hx hb dX8_keyAt_105 (by decide) (fun c_71 => ?_) (fun c_71 => ?_)
              · have c_71 : r_70.toInt = 32 := ti_eq c_71
                have qc_71 : r_70 = 32 := ti_of (show r_70.toInt = 32 from by omega)
                obtain ⟨z_72, ez_72⟩ : ∃ y : Int32, y = i_68 + 1 := ⟨_, rfl⟩
                have tz_72 : z_72.toInt = i_68.toInt + 1 := by rw [ez_72]; exact ti_addc (by decide) (by omega) (by omega)
                refine lv_iinc (v := z_72) (lv' := [(2, .int z_72), (3, .int i_6), (1, .int y_2), (0, .ref (mm 0))]) hx hb dX8_keyAt_114 hl (k := 1) rfl (ez_72.symm) (by decide) rfl (fun ls hl => ?_)
                obtain ⟨z_73, ez_73⟩ : ∃ y : Int32, y = y_2 + 1 := ⟨_, rfl⟩
                refine lv_iinc (v := z_73) (lv' := [(1, .int z_73), (2, .int z_72), (3, .int i_6), (0, .ref (mm 0))]) hx hb dX8_keyAt_117 hl (k := 2) rfl (ez_73.symm) (by decide) rfl (fun ls hl => ?_)
                refine lv_goto (tgt := 4) hx hb dX8_keyAt_120 (by decide) ?_
                exact ih4 (z_72, z_73) _ _ ls (by show (53 - z_72.toInt).toNat < (53 - i_1.toInt).toNat; omega) ⟨(show 1 ≤ z_72.toInt ∧ z_72.toInt ≤ 53 from ⟨by omega, by omega⟩), hP.sub [0, 1] rfl, rfl, rfl, lv_sub hl [1, 0, 3] rfl⟩
              · have c_71 : r_70.toInt ≠ 32 := ti_ne c_71
                obtain ⟨z_74, ez_74⟩ : ∃ y : Int32, y = i_68 + 1 := ⟨_, rfl⟩
                have tz_74 : z_74.toInt = i_68.toInt + 1 := by rw [ez_74]; exact ti_addc (by decide) (by omega) (by omega)
                refine lv_iinc (v := z_74) (lv' := [(2, .int z_74), (3, .int i_6), (1, .int y_2), (0, .ref (mm 0))]) hx hb dX8_keyAt_108 hl (k := 1) rfl (ez_74.symm) (by decide) rfl (fun ls hl => ?_)
                refine lv_goto (tgt := 97) hx hb dX8_keyAt_111 (by decide) ?_
                exact ih97 (z_74) _ _ ls (by show (52 - z_74.toInt).toNat < (52 - i_68.toInt).toNat; omega) ⟨(show i_1.toInt ≤ z_74.toInt ∧ z_74.toInt ≤ 52 from ⟨by omega, by omega⟩), hP.sub [0, 1] rfl, rfl, rfl, lv_sub hl [1, 0, 2, 3] rfl⟩
            · have c_67 : z_66.toInt = (mf 8).toInt := ti_eq c_67
              refine lv_iload_n hx hb dX8_keyAt_95 rfl (lv_at hl 2 rfl) ?_
              exact W.iret (v := y_2) hx hb hr (fun t ht hW => ⟨y_2, rfl, trivial, ht⟩) (fun q h => by cases h) dX8_keyAt_96
        · have c_55 : z_52.toInt = r_54.toInt := ti_eq c_55
          obtain ⟨z_75, ez_75⟩ : ∃ y : Int32, y = i_6 + 1 := ⟨_, rfl⟩
          have tz_75 : z_75.toInt = i_6.toInt + 1 := by rw [ez_75]; exact ti_addc (by decide) (by omega) (by omega)
          refine lv_iinc (v := z_75) (lv' := [(3, .int z_75), (2, .int i_1), (1, .int y_2), (0, .ref (mm 0))]) hx hb dX8_keyAt_63 hl (k := 0) rfl (ez_75.symm) (by decide) rfl (fun ls hl => ?_)
          refine lv_goto (tgt := 15) hx hb dX8_keyAt_66 (by decide) ?_
          exact ih15 (z_75) _ _ ls (by show ((52 - i_1.toInt) - z_75.toInt).toNat < ((52 - i_1.toInt) - i_6.toInt).toNat; omega) ⟨(show 0 ≤ z_75.toInt ∧ z_75.toInt ≤ (52 - i_1.toInt) from ⟨by omega, by omega⟩), hP.sub [0, 1] rfl, rfl, rfl, lv_sub hl [0, 1, 2, 3] rfl⟩
set_option maxHeartbeats 4000000 in
set_option maxRecDepth 100000 in
theorem s_M_nextToken (l : Launch) (D : va_G) (k : Nat → ClassId) (ak : Nat → Nat) (av : Nat → Nat) (mm : Nat → Nat) (mf : Nat → Int32) (tf : Nat → Int32) (sz : Nat) (w_t8 : 0 ≤ (mf 8).toInt ∧ (mf 8).toInt ≤ 900) (w_t9 : 0 ≤ (mf 9).toInt ∧ (mf 9).toInt ≤ 900) (w_tb : (mf 8).toInt ≤ (mf 9).toInt) : Met l yX8_nextToken (Cond.code yX8_nextToken cX8_nextToken 1 none :: wsL_law) ({ frames := 5, cells := 0, slots := 0, locals := 300 } : Room) (va_Pc [.ref (mm 0)] (pus ak av D k sz [((mm 0), .inr (7, [.int (mf 0), .ref (mm 1), .ref (mm 2), .ref (mm 3), .ref (mm 4), .ref (mm 5), .int (mf 6), .int (mf 7), .int (mf 8), .int (mf 9), .int (mf 10), .int (mf 11), .int (mf 12), .int (mf 13), .int (mf 14), .int (mf 15), .int (mf 16), .ref (mm 6), .int (mf 18), .ref (mm 7), .ref (mm 8), .ref (mm 9), .int (mf 22), .ref (mm 10), .ref (mm 11), .int (mf 25), .int (mf 26), .ref (mm 12), .ref (mm 13), .int (mf 29), .ref (mm 14), .ref (mm 15), .ref (mm 16)])), ((mm 4), .inl (k 0, 900, .inl tf))])) (va_Qv (fun uu : Int32 × Int32 × Int32 × Int32 => (0 ≤ uu.1.toInt ∧ uu.1.toInt ≤ 900) ∧ (0 ≤ uu.2.1.toInt ∧ uu.2.1.toInt ≤ 900) ∧ (uu.1.toInt ≤ uu.2.1.toInt) ∧ (uu.2.1.toInt ≤ (mf 9).toInt) ∧ (uu.2.2.1.toInt = 13 ∨ uu.1.toInt < uu.2.1.toInt) ∧ ((mf 8).toInt ≤ uu.1.toInt)) (qu D (va_A [((mm 0), .inr (7, [.int (mf 0), .ref (mm 1), .ref (mm 2), .ref (mm 3), .ref (mm 4), .ref (mm 5), .int (mf 6), .int (mf 7), .int (mf 8), .int (mf 9), .int (mf 10), .int (mf 11), .int (mf 12), .int (mf 13), .int (mf 14), .int (mf 15), .int (mf 16), .ref (mm 6), .int (mf 18), .ref (mm 7), .ref (mm 8), .ref (mm 9), .int (mf 22), .ref (mm 10), .ref (mm 11), .int (mf 25), .int (mf 26), .ref (mm 12), .ref (mm 13), .int (mf 29), .ref (mm 14), .ref (mm 15), .ref (mm 16)])), ((mm 4), .inl (k 0, 900, .inl tf))] sz) (fun uu : Int32 × Int32 × Int32 × Int32 => [((mm 0), .inr (7, [.int (mf 0), .ref (mm 1), .ref (mm 2), .ref (mm 3), .ref (mm 4), .ref (mm 5), .int (mf 6), .int uu.1, .int uu.2.1, .int (mf 9), .int uu.2.2.1, .int uu.2.2.2, .int (mf 12), .int (mf 13), .int (mf 14), .int (mf 15), .int (mf 16), .ref (mm 6), .int (mf 18), .ref (mm 7), .ref (mm 8), .ref (mm 9), .int (mf 22), .ref (mm 10), .ref (mm 11), .int (mf 25), .int (mf 26), .ref (mm 12), .ref (mm 13), .int (mf 29), .ref (mm 14), .ref (mm 15), .ref (mm 16)])), ((mm 4), .inl (k 0, 900, .inl tf))])) (va_A [((mm 0), .inr (7, [.int (mf 0), .ref (mm 1), .ref (mm 2), .ref (mm 3), .ref (mm 4), .ref (mm 5), .int (mf 6), .int (mf 7), .int (mf 8), .int (mf 9), .int (mf 10), .int (mf 11), .int (mf 12), .int (mf 13), .int (mf 14), .int (mf 15), .int (mf 16), .ref (mm 6), .int (mf 18), .ref (mm 7), .ref (mm 8), .ref (mm 9), .int (mf 22), .ref (mm 10), .ref (mm 11), .int (mf 25), .int (mf 26), .ref (mm 12), .ref (mm 13), .int (mf 29), .ref (mm 14), .ref (mm 15), .ref (mm 16)])), ((mm 4), .inl (k 0, 900, .inl tf))] sz)) 0 0 (va_A [((mm 0), .inr (7, [.int (mf 0), .ref (mm 1), .ref (mm 2), .ref (mm 3), .ref (mm 4), .ref (mm 5), .int (mf 6), .int (mf 7), .int (mf 8), .int (mf 9), .int (mf 10), .int (mf 11), .int (mf 12), .int (mf 13), .int (mf 14), .int (mf 15), .int (mf 16), .ref (mm 6), .int (mf 18), .ref (mm 7), .ref (mm 8), .ref (mm 9), .int (mf 22), .ref (mm 10), .ref (mm 11), .int (mf 25), .int (mf 26), .ref (mm 12), .ref (mm 13), .int (mf 29), .ref (mm 14), .ref (mm 15), .ref (mm 16)])), ((mm 4), .inl (k 0, 900, .inl tf))] sz) := by
  refine Met.ofW (cc := cX8_nextToken) (maxL := 1) (ret := none) (by decide) rfl ?_
  intro p e s m args below meth c s₁ B hml hv
  obtain ⟨rfl, hsz, hP, hK, hD0, hN0, hW0⟩ := hv
  have hx := B.exec
  have hb := B.bytes
  have hr := B.returns
  have hts : ∀ w ∈ wsL_law, w.before _ s = true := fun w h => atoms_spec (ws := Cond.code yX8_nextToken cX8_nextToken 1 none :: wsL_law) B.pre w (List.mem_cons_of_mem _ h)
  have hown : s.vm.findClass RX8 = some m.cls := findClass_of_methodNamed B.named
  have hlocks := B.notSynchronized
  subst hsz
  have hD := hD0.self (sz := s.heap.size)
  generalize hAe : va_A [((mm 0), .inr (7, [.int (mf 0), .ref (mm 1), .ref (mm 2), .ref (mm 3), .ref (mm 4), .ref (mm 5), .int (mf 6), .int (mf 7), .int (mf 8), .int (mf 9), .int (mf 10), .int (mf 11), .int (mf 12), .int (mf 13), .int (mf 14), .int (mf 15), .int (mf 16), .ref (mm 6), .int (mf 18), .ref (mm 7), .ref (mm 8), .ref (mm 9), .int (mf 22), .ref (mm 10), .ref (mm 11), .int (mf 25), .int (mf 26), .ref (mm 12), .ref (mm 13), .int (mf 29), .ref (mm 14), .ref (mm 15), .ref (mm 16)])), ((mm 4), .inl (k 0, 900, .inl tf))] s.heap.size = A at hD hW0 ⊢
  have hA : ∀ q : Nat, s.heap.size ≤ q → A q := fun q h => by rw [← hAe]; exact Or.inr h
  have hS : va_S A s.heap s.heap [] := va_S.rf
  replace hP : va_P D vwCl [((mm 0), .inr (7, [.int (mf 0), .ref (mm 1), .ref (mm 2), .ref (mm 3), .ref (mm 4), .ref (mm 5), .int (mf 6), .int (mf 7), .int (mf 8), .int (mf 9), .int (mf 10), .int (mf 11), .int (mf 12), .int (mf 13), .int (mf 14), .int (mf 15), .int (mf 16), .ref (mm 6), .int (mf 18), .ref (mm 7), .ref (mm 8), .ref (mm 9), .int (mf 22), .ref (mm 10), .ref (mm 11), .int (mf 25), .int (mf 26), .ref (mm 12), .ref (mm 13), .int (mf 29), .ref (mm 14), .ref (mm 15), .ref (mm 16)])), ((mm 4), .inl (k 0, 900, .inl tf))] s.heap := hP
  have hl := lv_entry ([.ref (mm 0)]) (n := 1) (Nat.le_of_ble_eq_true rfl)
  rw [lg_entry_eq]
  generalize (lg_sl ([.ref (mm 0)]) ++ List.replicate (1 - (lg_sl ([.ref (mm 0)])).length) Slot.unset).toArray = ls at hl ⊢
  replace hl : lv_has ls 1 [(0, .ref (mm 0))] := hl
  refine lv_aload_n hx hb dX8_nextToken_0 rfl (lv_at hl 0 rfl) ?_
  refine lv_aload_n hx hb dX8_nextToken_1 rfl (lv_at hl 0 rfl) ?_
  refine va_get (D := D) (ci := 7) (v := .int (mf 8)) (C := RX8) (T := TX8) (N := 33) hx hb hts inlX8 hown hK hP 0 rfl rfl 8 (by decide) (hts _ mwn_288) (fun _ h9 => h9) rfl dX8_nextToken_2 ?_
  refine va_put (D := D) (ci := 7) (v := .int (mf 8)) (ty := .int) (C := RX8) (T := TX8) (N := 33) hx hb hts inlX8 tyX8 tyX8_ok nmX8 hown hK hP hD hS 0 rfl rfl 7 (by decide) (hts _ mwn_301) (fun _ h9 => h9) rfl (by decide +kernel) rfl rfl (Nat.le_of_ble_eq_true rfl) dX8_nextToken_5 (fun H locs hP hD hS => ?_)
  replace hP : va_P D vwCl [((mm 0), .inr (7, [.int (mf 0), .ref (mm 1), .ref (mm 2), .ref (mm 3), .ref (mm 4), .ref (mm 5), .int (mf 6), .int (mf 8), .int (mf 8), .int (mf 9), .int (mf 10), .int (mf 11), .int (mf 12), .int (mf 13), .int (mf 14), .int (mf 15), .int (mf 16), .ref (mm 6), .int (mf 18), .ref (mm 7), .ref (mm 8), .ref (mm 9), .int (mf 22), .ref (mm 10), .ref (mm 11), .int (mf 25), .int (mf 26), .ref (mm 12), .ref (mm 13), .int (mf 29), .ref (mm 14), .ref (mm 15), .ref (mm 16)])), ((mm 4), .inl (k 0, 900, .inl tf))] H := hP
  replace hD : va_D A [((mm 0), .inr (7, [.int (mf 0), .ref (mm 1), .ref (mm 2), .ref (mm 3), .ref (mm 4), .ref (mm 5), .int (mf 6), .int (mf 8), .int (mf 8), .int (mf 9), .int (mf 10), .int (mf 11), .int (mf 12), .int (mf 13), .int (mf 14), .int (mf 15), .int (mf 16), .ref (mm 6), .int (mf 18), .ref (mm 7), .ref (mm 8), .ref (mm 9), .int (mf 22), .ref (mm 10), .ref (mm 11), .int (mf 25), .int (mf 26), .ref (mm 12), .ref (mm 13), .int (mf 29), .ref (mm 14), .ref (mm 15), .ref (mm 16)])), ((mm 4), .inl (k 0, 900, .inl tf))] := hD
  refine W_loop (σ := Int32) (fun xx H locs ls => ((mf 8).toInt ≤ xx.toInt ∧ xx.toInt ≤ (mf 9).toInt) ∧ va_P D vwCl [((mm 0), .inr (7, [.int (mf 0), .ref (mm 1), .ref (mm 2), .ref (mm 3), .ref (mm 4), .ref (mm 5), .int (mf 6), .int xx, .int (mf 8), .int (mf 9), .int (mf 10), .int (mf 11), .int (mf 12), .int (mf 13), .int (mf 14), .int (mf 15), .int (mf 16), .ref (mm 6), .int (mf 18), .ref (mm 7), .ref (mm 8), .ref (mm 9), .int (mf 22), .ref (mm 10), .ref (mm 11), .int (mf 25), .int (mf 26), .ref (mm 12), .ref (mm 13), .int (mf 29), .ref (mm 14), .ref (mm 15), .ref (mm 16)])), ((mm 4), .inl (k 0, 900, .inl tf))] H ∧ va_D A [((mm 0), .inr (7, [.int (mf 0), .ref (mm 1), .ref (mm 2), .ref (mm 3), .ref (mm 4), .ref (mm 5), .int (mf 6), .int xx, .int (mf 8), .int (mf 9), .int (mf 10), .int (mf 11), .int (mf 12), .int (mf 13), .int (mf 14), .int (mf 15), .int (mf 16), .ref (mm 6), .int (mf 18), .ref (mm 7), .ref (mm 8), .ref (mm 9), .int (mf 22), .ref (mm 10), .ref (mm 11), .int (mf 25), .int (mf 26), .ref (mm 12), .ref (mm 13), .int (mf 29), .ref (mm 14), .ref (mm 15), .ref (mm 16)])), ((mm 4), .inl (k 0, 900, .inl tf))] ∧ va_S A s.heap H locs ∧ lv_has ls 1 [(0, .ref (mm 0))]) (fun xx => ((mf 9).toInt - xx.toInt).toNat) ?_ ((mf 8)) _ _ ls ⟨(show (mf 8).toInt ≤ (mf 8).toInt ∧ (mf 8).toInt ≤ (mf 9).toInt from ⟨by omega, by omega⟩), hP.sub [0, 1] rfl, hD.sub [0, 1] (by decide) rfl, hS, lv_sub hl [0] rfl⟩
  intro xx H locs ls hI ih8
  obtain ⟨i_1, rfl⟩ : ∃ z, z = xx := ⟨_, rfl⟩
  obtain ⟨h_2, hP, hD, hS, hl⟩ := hI
  replace h_2 : (mf 8).toInt ≤ i_1.toInt ∧ i_1.toInt ≤ (mf 9).toInt := h_2
  obtain ⟨h_2a, h_2b⟩ := h_2
  replace hP : va_P D vwCl [((mm 0), .inr (7, [.int (mf 0), .ref (mm 1), .ref (mm 2), .ref (mm 3), .ref (mm 4), .ref (mm 5), .int (mf 6), .int i_1, .int (mf 8), .int (mf 9), .int (mf 10), .int (mf 11), .int (mf 12), .int (mf 13), .int (mf 14), .int (mf 15), .int (mf 16), .ref (mm 6), .int (mf 18), .ref (mm 7), .ref (mm 8), .ref (mm 9), .int (mf 22), .ref (mm 10), .ref (mm 11), .int (mf 25), .int (mf 26), .ref (mm 12), .ref (mm 13), .int (mf 29), .ref (mm 14), .ref (mm 15), .ref (mm 16)])), ((mm 4), .inl (k 0, 900, .inl tf))] H := hP
  replace hD : va_D A [((mm 0), .inr (7, [.int (mf 0), .ref (mm 1), .ref (mm 2), .ref (mm 3), .ref (mm 4), .ref (mm 5), .int (mf 6), .int i_1, .int (mf 8), .int (mf 9), .int (mf 10), .int (mf 11), .int (mf 12), .int (mf 13), .int (mf 14), .int (mf 15), .int (mf 16), .ref (mm 6), .int (mf 18), .ref (mm 7), .ref (mm 8), .ref (mm 9), .int (mf 22), .ref (mm 10), .ref (mm 11), .int (mf 25), .int (mf 26), .ref (mm 12), .ref (mm 13), .int (mf 29), .ref (mm 14), .ref (mm 15), .ref (mm 16)])), ((mm 4), .inl (k 0, 900, .inl tf))] := hD
  replace hl : lv_has ls 1 [(0, .ref (mm 0))] := hl
  refine lv_aload_n hx hb dX8_nextToken_8 rfl (lv_at hl 0 rfl) ?_
  refine lv_aload_n hx hb dX8_nextToken_9 rfl (lv_at hl 0 rfl) ?_
  refine va_get (D := D) (ci := 7) (v := .int i_1) (C := RX8) (T := TX8) (N := 33) hx hb hts inlX8 hown hK hP 0 rfl rfl 7 (by decide) (hts _ mwn_301) (fun _ h9 => h9) rfl dX8_nextToken_10 ?_
  refine kV_i (q0 := 0) (As := [.int i_1]) (rest := []) ⟨hx, hb, hml, hown, hts⟩ (s_M_see l D k _ (va_seli [(mf 0), 0, 0, 0, 0, 0, (mf 6), i_1, (mf 8), (mf 9), (mf 10), (mf 11), (mf 12), (mf 13), (mf 14), (mf 15), (mf 16), 0, (mf 18), 0, 0, 0, (mf 22), 0, 0, (mf 25), (mf 26), 0, 0, (mf 29)]) tf i_1 (show 0 ≤ i_1.toInt ∧ i_1.toInt ≤ 901 from ⟨by omega, by omega⟩) (show 0 ≤ (mf 9).toInt ∧ (mf 9).toInt ≤ 900 from ⟨by omega, by omega⟩)) (gV mwn_303 mwn_304 mwn_305 mwn_5 mwn_306) hdn_yX8_see rfl rfl ⟨Nat.le_of_ble_eq_true rfl, Nat.le_of_ble_eq_true rfl⟩ hK hN0 (hP.sub [0, 1] rfl) rfl rfl rfl rfl hl.1 rfl (Nat.le_of_ble_eq_true rfl) dX8_nextToken_13 ⟨Nat.le_of_ble_eq_true rfl, Nat.le_of_ble_eq_true rfl⟩ (fun r_3 hr_3 => ?_)
  obtain rfl : r_3 = (SEE tf (mf 9) i_1) := hr_3
  have hs_4 : (SEE tf (mf 9) i_1).toInt = -1 ∨ i_1.toInt < (mf 9).toInt := SEE_b
  refine lv_bipush (v := 10) hx hb dX8_nextToken_16 (by decide) ?_
  refine lv_icmp_eq (tgt := 34) hx hb dX8_nextToken_18 (by decide) (fun c_5 => ?_) (fun c_5 => ?_)
  · have c_5 : (SEE tf (mf 9) i_1).toInt = 10 := ti_eq c_5
    have qc_5 : (SEE tf (mf 9) i_1) = 10 := ti_of (show (SEE tf (mf 9) i_1).toInt = 10 from by omega)
    refine lv_aload_n hx hb dX8_nextToken_34 rfl (lv_at hl 0 rfl) ?_
    refine lv_dup hx hb dX8_nextToken_35 rfl ?_
    refine va_get (D := D) (ci := 7) (v := .int i_1) (C := RX8) (T := TX8) (N := 33) hx hb hts inlX8 hown hK hP 0 rfl rfl 7 (by decide) (hts _ mwn_301) (fun _ h9 => h9) rfl dX8_nextToken_36 ?_
    refine lv_iconst (v := 1) hx hb dX8_nextToken_39 (by decide) ?_
    refine lv_iadd hx hb dX8_nextToken_40 ?_
    refine lv_topi (fun z_6 ez_6 => ?_)
    have tz_6 : z_6.toInt = i_1.toInt + 1 := by rw [ez_6]; exact ti_addc (by decide) (by omega) (by omega)
    refine va_put (D := D) (ci := 7) (v := .int z_6) (ty := .int) (C := RX8) (T := TX8) (N := 33) hx hb hts inlX8 tyX8 tyX8_ok nmX8 hown hK hP hD hS 0 rfl rfl 7 (by decide) (hts _ mwn_301) (fun _ h9 => h9) rfl (by decide +kernel) rfl rfl (Nat.le_of_ble_eq_true rfl) dX8_nextToken_41 (fun H locs hP hD hS => ?_)
    replace hP : va_P D vwCl [((mm 0), .inr (7, [.int (mf 0), .ref (mm 1), .ref (mm 2), .ref (mm 3), .ref (mm 4), .ref (mm 5), .int (mf 6), .int z_6, .int (mf 8), .int (mf 9), .int (mf 10), .int (mf 11), .int (mf 12), .int (mf 13), .int (mf 14), .int (mf 15), .int (mf 16), .ref (mm 6), .int (mf 18), .ref (mm 7), .ref (mm 8), .ref (mm 9), .int (mf 22), .ref (mm 10), .ref (mm 11), .int (mf 25), .int (mf 26), .ref (mm 12), .ref (mm 13), .int (mf 29), .ref (mm 14), .ref (mm 15), .ref (mm 16)])), ((mm 4), .inl (k 0, 900, .inl tf))] H := hP
    replace hD : va_D A [((mm 0), .inr (7, [.int (mf 0), .ref (mm 1), .ref (mm 2), .ref (mm 3), .ref (mm 4), .ref (mm 5), .int (mf 6), .int z_6, .int (mf 8), .int (mf 9), .int (mf 10), .int (mf 11), .int (mf 12), .int (mf 13), .int (mf 14), .int (mf 15), .int (mf 16), .ref (mm 6), .int (mf 18), .ref (mm 7), .ref (mm 8), .ref (mm 9), .int (mf 22), .ref (mm 10), .ref (mm 11), .int (mf 25), .int (mf 26), .ref (mm 12), .ref (mm 13), .int (mf 29), .ref (mm 14), .ref (mm 15), .ref (mm 16)])), ((mm 4), .inl (k 0, 900, .inl tf))] := hD
    refine lv_goto (tgt := 8) hx hb dX8_nextToken_44 (by decide) ?_
    exact ih8 (z_6) _ _ ls (by show ((mf 9).toInt - z_6.toInt).toNat < ((mf 9).toInt - i_1.toInt).toNat; omega) ⟨(show (mf 8).toInt ≤ z_6.toInt ∧ z_6.toInt ≤ (mf 9).toInt from ⟨by omega, by omega⟩), hP.sub [0, 1] rfl, hD.sub [0, 1] (by decide) rfl, hS, lv_sub hl [0] rfl⟩
  · have c_5 : (SEE tf (mf 9) i_1).toInt ≠ 10 := ti_ne c_5
    refine lv_aload_n hx hb dX8_nextToken_21 rfl (lv_at hl 0 rfl) ?_
    refine lv_aload_n hx hb dX8_nextToken_22 rfl (lv_at hl 0 rfl) ?_
    refine va_get (D := D) (ci := 7) (v := .int i_1) (C := RX8) (T := TX8) (N := 33) hx hb hts inlX8 hown hK hP 0 rfl rfl 7 (by decide) (hts _ mwn_301) (fun _ h9 => h9) rfl dX8_nextToken_23 ?_
    refine kV_i (q0 := 0) (As := [.int i_1]) (rest := []) ⟨hx, hb, hml, hown, hts⟩ (s_M_see l D k _ (va_seli [(mf 0), 0, 0, 0, 0, 0, (mf 6), i_1, (mf 8), (mf 9), (mf 10), (mf 11), (mf 12), (mf 13), (mf 14), (mf 15), (mf 16), 0, (mf 18), 0, 0, 0, (mf 22), 0, 0, (mf 25), (mf 26), 0, 0, (mf 29)]) tf i_1 (show 0 ≤ i_1.toInt ∧ i_1.toInt ≤ 901 from ⟨by omega, by omega⟩) (show 0 ≤ (mf 9).toInt ∧ (mf 9).toInt ≤ 900 from ⟨by omega, by omega⟩)) (gV mwn_303 mwn_304 mwn_305 mwn_5 mwn_306) hdn_yX8_see rfl rfl ⟨Nat.le_of_ble_eq_true rfl, Nat.le_of_ble_eq_true rfl⟩ hK hN0 (hP.sub [0, 1] rfl) rfl rfl rfl rfl hl.1 rfl (Nat.le_of_ble_eq_true rfl) dX8_nextToken_26 ⟨Nat.le_of_ble_eq_true rfl, Nat.le_of_ble_eq_true rfl⟩ (fun r_7 hr_7 => ?_)
    obtain rfl : r_7 = (SEE tf (mf 9) i_1) := hr_7
    have hs_8 : (SEE tf (mf 9) i_1).toInt = -1 ∨ i_1.toInt < (mf 9).toInt := SEE_b
    refine lv_bipush (v := 32) hx hb dX8_nextToken_29 (by decide) ?_
    refine lv_icmp_ne (tgt := 47) hx hb dX8_nextToken_31 (by decide) (fun c_9 => ?_) (fun c_9 => ?_)
    · have c_9 : (SEE tf (mf 9) i_1).toInt ≠ 32 := ti_ne c_9
      refine lv_aload_n hx hb dX8_nextToken_47 rfl (lv_at hl 0 rfl) ?_
      refine lv_aload_n hx hb dX8_nextToken_48 rfl (lv_at hl 0 rfl) ?_
      refine va_get (D := D) (ci := 7) (v := .int i_1) (C := RX8) (T := TX8) (N := 33) hx hb hts inlX8 hown hK hP 0 rfl rfl 7 (by decide) (hts _ mwn_301) (fun _ h9 => h9) rfl dX8_nextToken_49 ?_
      refine va_put (D := D) (ci := 7) (v := .int i_1) (ty := .int) (C := RX8) (T := TX8) (N := 33) hx hb hts inlX8 tyX8 tyX8_ok nmX8 hown hK hP hD hS 0 rfl rfl 8 (by decide) (hts _ mwn_288) (fun _ h9 => h9) rfl (by decide +kernel) rfl rfl (Nat.le_of_ble_eq_true rfl) dX8_nextToken_52 (fun H locs hP hD hS => ?_)
      replace hP : va_P D vwCl [((mm 0), .inr (7, [.int (mf 0), .ref (mm 1), .ref (mm 2), .ref (mm 3), .ref (mm 4), .ref (mm 5), .int (mf 6), .int i_1, .int i_1, .int (mf 9), .int (mf 10), .int (mf 11), .int (mf 12), .int (mf 13), .int (mf 14), .int (mf 15), .int (mf 16), .ref (mm 6), .int (mf 18), .ref (mm 7), .ref (mm 8), .ref (mm 9), .int (mf 22), .ref (mm 10), .ref (mm 11), .int (mf 25), .int (mf 26), .ref (mm 12), .ref (mm 13), .int (mf 29), .ref (mm 14), .ref (mm 15), .ref (mm 16)])), ((mm 4), .inl (k 0, 900, .inl tf))] H := hP
      replace hD : va_D A [((mm 0), .inr (7, [.int (mf 0), .ref (mm 1), .ref (mm 2), .ref (mm 3), .ref (mm 4), .ref (mm 5), .int (mf 6), .int i_1, .int i_1, .int (mf 9), .int (mf 10), .int (mf 11), .int (mf 12), .int (mf 13), .int (mf 14), .int (mf 15), .int (mf 16), .ref (mm 6), .int (mf 18), .ref (mm 7), .ref (mm 8), .ref (mm 9), .int (mf 22), .ref (mm 10), .ref (mm 11), .int (mf 25), .int (mf 26), .ref (mm 12), .ref (mm 13), .int (mf 29), .ref (mm 14), .ref (mm 15), .ref (mm 16)])), ((mm 4), .inl (k 0, 900, .inl tf))] := hD
      refine lv_aload_n hx hb dX8_nextToken_55 rfl (lv_at hl 0 rfl) ?_
      refine va_get (D := D) (ci := 7) (v := .int i_1) (C := RX8) (T := TX8) (N := 33) hx hb hts inlX8 hown hK hP 0 rfl rfl 7 (by decide) (hts _ mwn_301) (fun _ h9 => h9) rfl dX8_nextToken_56 ?_
      refine lv_aload_n hx hb dX8_nextToken_59 rfl (lv_at hl 0 rfl) ?_
      refine va_get (D := D) (ci := 7) (v := .int (mf 9)) (C := RX8) (T := TX8) (N := 33) hx hb hts inlX8 hown hK hP 0 rfl rfl 9 (by decide) (hts _ mwn_287) (fun _ h9 => h9) rfl dX8_nextToken_60 ?_
      refine lv_icmp_lt (tgt := 75) hx hb dX8_nextToken_63 (by decide) (fun c_10 => ?_) (fun c_10 => ?_)
      · have c_10 : i_1.toInt < (mf 9).toInt := ti_lt c_10
        refine lv_aload_n hx hb dX8_nextToken_75 rfl (lv_at hl 0 rfl) ?_
        refine lv_aload_n hx hb dX8_nextToken_76 rfl (lv_at hl 0 rfl) ?_
        refine va_get (D := D) (ci := 7) (v := .int i_1) (C := RX8) (T := TX8) (N := 33) hx hb hts inlX8 hown hK hP 0 rfl rfl 7 (by decide) (hts _ mwn_301) (fun _ h9 => h9) rfl dX8_nextToken_77 ?_
        refine kV_i (q0 := 0) (As := [.int i_1]) (rest := []) ⟨hx, hb, hml, hown, hts⟩ (s_M_see l D k _ (va_seli [(mf 0), 0, 0, 0, 0, 0, (mf 6), i_1, i_1, (mf 9), (mf 10), (mf 11), (mf 12), (mf 13), (mf 14), (mf 15), (mf 16), 0, (mf 18), 0, 0, 0, (mf 22), 0, 0, (mf 25), (mf 26), 0, 0, (mf 29)]) tf i_1 (show 0 ≤ i_1.toInt ∧ i_1.toInt ≤ 901 from ⟨by omega, by omega⟩) (show 0 ≤ (mf 9).toInt ∧ (mf 9).toInt ≤ 900 from ⟨by omega, by omega⟩)) (gV mwn_303 mwn_304 mwn_305 mwn_5 mwn_306) hdn_yX8_see rfl rfl ⟨Nat.le_of_ble_eq_true rfl, Nat.le_of_ble_eq_true rfl⟩ hK hN0 (hP.sub [0, 1] rfl) rfl rfl rfl rfl hl.1 rfl (Nat.le_of_ble_eq_true rfl) dX8_nextToken_80 ⟨Nat.le_of_ble_eq_true rfl, Nat.le_of_ble_eq_true rfl⟩ (fun r_11 hr_11 => ?_)
        obtain rfl : r_11 = (SEE tf (mf 9) i_1) := hr_11
        have hs_12 : (SEE tf (mf 9) i_1).toInt = -1 ∨ i_1.toInt < (mf 9).toInt := SEE_b
        refine kS_i (As := [.int (SEE tf (mf 9) i_1)]) (rest := []) ⟨hx, hb, hml, hown, hts⟩ (s_M_isSmall l D k (SEE tf (mf 9) i_1)) (gS mwn_307 mwn_308 mwn_5 mwn_309) hdn_yX8_isSmall rfl rfl ⟨Nat.le_of_ble_eq_true rfl, Nat.le_of_ble_eq_true rfl⟩ hK hN0 (hP.sub [] rfl) rfl hl.1 rfl (Nat.le_of_ble_eq_true rfl) dX8_nextToken_83 ⟨Nat.le_of_ble_eq_true rfl, Nat.le_of_ble_eq_true rfl⟩ (fun r_13 hr_13 => ?_)
        replace hr_13 : (r_13.toInt = 0 ∧ ((SEE tf (mf 9) i_1).toInt < 97 ∨ 122 < (SEE tf (mf 9) i_1).toInt)) ∨ (r_13.toInt = 1 ∧ 97 ≤ (SEE tf (mf 9) i_1).toInt ∧ (SEE tf (mf 9) i_1).toInt ≤ 122) := hr_13
        refine lv_if_eq (tgt := 127) hx hb dX8_nextToken_86 (by decide) (fun c_14 => ?_) (fun c_14 => ?_)
        · have c_14 : r_13.toInt = 0 := ti_eq c_14
          have qc_14 : r_13 = 0 := ti_of (show r_13.toInt = 0 from by omega)
          refine lv_aload_n hx hb dX8_nextToken_127 rfl (lv_at hl 0 rfl) ?_
          refine lv_aload_n hx hb dX8_nextToken_128 rfl (lv_at hl 0 rfl) ?_
          refine va_get (D := D) (ci := 7) (v := .int i_1) (C := RX8) (T := TX8) (N := 33) hx hb hts inlX8 hown hK hP 0 rfl rfl 7 (by decide) (hts _ mwn_301) (fun _ h9 => h9) rfl dX8_nextToken_129 ?_
          refine kV_i (q0 := 0) (As := [.int i_1]) (rest := []) ⟨hx, hb, hml, hown, hts⟩ (s_M_see l D k _ (va_seli [(mf 0), 0, 0, 0, 0, 0, (mf 6), i_1, i_1, (mf 9), (mf 10), (mf 11), (mf 12), (mf 13), (mf 14), (mf 15), (mf 16), 0, (mf 18), 0, 0, 0, (mf 22), 0, 0, (mf 25), (mf 26), 0, 0, (mf 29)]) tf i_1 (show 0 ≤ i_1.toInt ∧ i_1.toInt ≤ 901 from ⟨by omega, by omega⟩) (show 0 ≤ (mf 9).toInt ∧ (mf 9).toInt ≤ 900 from ⟨by omega, by omega⟩)) (gV mwn_303 mwn_304 mwn_305 mwn_5 mwn_306) hdn_yX8_see rfl rfl ⟨Nat.le_of_ble_eq_true rfl, Nat.le_of_ble_eq_true rfl⟩ hK hN0 (hP.sub [0, 1] rfl) rfl rfl rfl rfl hl.1 rfl (Nat.le_of_ble_eq_true rfl) dX8_nextToken_132 ⟨Nat.le_of_ble_eq_true rfl, Nat.le_of_ble_eq_true rfl⟩ (fun r_15 hr_15 => ?_)
          obtain rfl : r_15 = (SEE tf (mf 9) i_1) := hr_15
          have hs_16 : (SEE tf (mf 9) i_1).toInt = -1 ∨ i_1.toInt < (mf 9).toInt := SEE_b
          refine kS_i (As := [.int (SEE tf (mf 9) i_1)]) (rest := []) ⟨hx, hb, hml, hown, hts⟩ (s_M_isDigit l D k (SEE tf (mf 9) i_1)) (gS mwn_316 mwn_317 mwn_5 mwn_318) hdn_yX8_isDigit rfl rfl ⟨Nat.le_of_ble_eq_true rfl, Nat.le_of_ble_eq_true rfl⟩ hK hN0 (hP.sub [] rfl) rfl hl.1 rfl (Nat.le_of_ble_eq_true rfl) dX8_nextToken_135 ⟨Nat.le_of_ble_eq_true rfl, Nat.le_of_ble_eq_true rfl⟩ (fun r_17 hr_17 => ?_)
          replace hr_17 : (r_17.toInt = 0 ∧ ((SEE tf (mf 9) i_1).toInt < 48 ∨ 57 < (SEE tf (mf 9) i_1).toInt)) ∨ (r_17.toInt = 1 ∧ 48 ≤ (SEE tf (mf 9) i_1).toInt ∧ (SEE tf (mf 9) i_1).toInt ≤ 57) := hr_17
          refine lv_if_eq (tgt := 236) hx hb dX8_nextToken_138 (by decide) (fun c_18 => ?_) (fun c_18 => ?_)
          · have c_18 : r_17.toInt = 0 := ti_eq c_18
            have qc_18 : r_17 = 0 := ti_of (show r_17.toInt = 0 from by omega)
            refine lv_aload_n hx hb dX8_nextToken_236 rfl (lv_at hl 0 rfl) ?_
            refine lv_dup hx hb dX8_nextToken_237 rfl ?_
            refine va_get (D := D) (ci := 7) (v := .int i_1) (C := RX8) (T := TX8) (N := 33) hx hb hts inlX8 hown hK hP 0 rfl rfl 8 (by decide) (hts _ mwn_288) (fun _ h9 => h9) rfl dX8_nextToken_238 ?_
            refine lv_iconst (v := 1) hx hb dX8_nextToken_241 (by decide) ?_
            refine lv_iadd hx hb dX8_nextToken_242 ?_
            refine lv_topi (fun z_19 ez_19 => ?_)
            have tz_19 : z_19.toInt = i_1.toInt + 1 := by rw [ez_19]; exact ti_addc (by decide) (by omega) (by omega)
            refine va_put (D := D) (ci := 7) (v := .int z_19) (ty := .int) (C := RX8) (T := TX8) (N := 33) hx hb hts inlX8 tyX8 tyX8_ok nmX8 hown hK hP hD hS 0 rfl rfl 8 (by decide) (hts _ mwn_288) (fun _ h9 => h9) rfl (by decide +kernel) rfl rfl (Nat.le_of_ble_eq_true rfl) dX8_nextToken_243 (fun H locs hP hD hS => ?_)
            replace hP : va_P D vwCl [((mm 0), .inr (7, [.int (mf 0), .ref (mm 1), .ref (mm 2), .ref (mm 3), .ref (mm 4), .ref (mm 5), .int (mf 6), .int i_1, .int z_19, .int (mf 9), .int (mf 10), .int (mf 11), .int (mf 12), .int (mf 13), .int (mf 14), .int (mf 15), .int (mf 16), .ref (mm 6), .int (mf 18), .ref (mm 7), .ref (mm 8), .ref (mm 9), .int (mf 22), .ref (mm 10), .ref (mm 11), .int (mf 25), .int (mf 26), .ref (mm 12), .ref (mm 13), .int (mf 29), .ref (mm 14), .ref (mm 15), .ref (mm 16)])), ((mm 4), .inl (k 0, 900, .inl tf))] H := hP
            replace hD : va_D A [((mm 0), .inr (7, [.int (mf 0), .ref (mm 1), .ref (mm 2), .ref (mm 3), .ref (mm 4), .ref (mm 5), .int (mf 6), .int i_1, .int z_19, .int (mf 9), .int (mf 10), .int (mf 11), .int (mf 12), .int (mf 13), .int (mf 14), .int (mf 15), .int (mf 16), .ref (mm 6), .int (mf 18), .ref (mm 7), .ref (mm 8), .ref (mm 9), .int (mf 22), .ref (mm 10), .ref (mm 11), .int (mf 25), .int (mf 26), .ref (mm 12), .ref (mm 13), .int (mf 29), .ref (mm 14), .ref (mm 15), .ref (mm 16)])), ((mm 4), .inl (k 0, 900, .inl tf))] := hD
            refine lv_aload_n hx hb dX8_nextToken_246 rfl (lv_at hl 0 rfl) ?_
            refine lv_aload_n hx hb dX8_nextToken_247 rfl (lv_at hl 0 rfl) ?_
            refine lv_aload_n hx hb dX8_nextToken_248 rfl (lv_at hl 0 rfl) ?_
            refine va_get (D := D) (ci := 7) (v := .int i_1) (C := RX8) (T := TX8) (N := 33) hx hb hts inlX8 hown hK hP 0 rfl rfl 7 (by decide) (hts _ mwn_301) (fun _ h9 => h9) rfl dX8_nextToken_249 ?_
            refine kV_i (q0 := 0) (As := [.int i_1]) (rest := [.ref (mm 0)]) ⟨hx, hb, hml, hown, hts⟩ (s_M_see l D k _ (va_seli [(mf 0), 0, 0, 0, 0, 0, (mf 6), i_1, z_19, (mf 9), (mf 10), (mf 11), (mf 12), (mf 13), (mf 14), (mf 15), (mf 16), 0, (mf 18), 0, 0, 0, (mf 22), 0, 0, (mf 25), (mf 26), 0, 0, (mf 29)]) tf i_1 (show 0 ≤ i_1.toInt ∧ i_1.toInt ≤ 901 from ⟨by omega, by omega⟩) (show 0 ≤ (mf 9).toInt ∧ (mf 9).toInt ≤ 900 from ⟨by omega, by omega⟩)) (gV mwn_303 mwn_304 mwn_305 mwn_5 mwn_306) hdn_yX8_see rfl rfl ⟨Nat.le_of_ble_eq_true rfl, Nat.le_of_ble_eq_true rfl⟩ hK hN0 (hP.sub [0, 1] rfl) rfl rfl rfl rfl hl.1 rfl (Nat.le_of_ble_eq_true rfl) dX8_nextToken_252 ⟨Nat.le_of_ble_eq_true rfl, Nat.le_of_ble_eq_true rfl⟩ (fun r_20 hr_20 => ?_)
            obtain rfl : r_20 = (SEE tf (mf 9) i_1) := hr_20
            refine lv_bipush (v := 59) hx hb dX8_nextToken_255 (by decide) ?_
            refine lv_icmp_ne (tgt := 265) hx hb dX8_nextToken_257 (by decide) (fun c_21 => ?_) (fun c_21 => ?_)
            · have c_21 : (SEE tf (mf 9) i_1).toInt ≠ 59 := ti_ne c_21
              refine lv_bipush (v := 14) hx hb dX8_nextToken_265 (by decide) ?_
              refine va_put (D := D) (ci := 7) (v := .int 14) (ty := .int) (C := RX8) (T := TX8) (N := 33) hx hb hts inlX8 tyX8 tyX8_ok nmX8 hown hK hP hD hS 0 rfl rfl 10 (by decide) (hts _ mwn_290) (fun _ h9 => h9) rfl (by decide +kernel) rfl rfl (Nat.le_of_ble_eq_true rfl) dX8_nextToken_267 (fun H locs hP hD hS => ?_)
              replace hP : va_P D vwCl [((mm 0), .inr (7, [.int (mf 0), .ref (mm 1), .ref (mm 2), .ref (mm 3), .ref (mm 4), .ref (mm 5), .int (mf 6), .int i_1, .int z_19, .int (mf 9), .int 14, .int (mf 11), .int (mf 12), .int (mf 13), .int (mf 14), .int (mf 15), .int (mf 16), .ref (mm 6), .int (mf 18), .ref (mm 7), .ref (mm 8), .ref (mm 9), .int (mf 22), .ref (mm 10), .ref (mm 11), .int (mf 25), .int (mf 26), .ref (mm 12), .ref (mm 13), .int (mf 29), .ref (mm 14), .ref (mm 15), .ref (mm 16)])), ((mm 4), .inl (k 0, 900, .inl tf))] H := hP
              replace hD : va_D A [((mm 0), .inr (7, [.int (mf 0), .ref (mm 1), .ref (mm 2), .ref (mm 3), .ref (mm 4), .ref (mm 5), .int (mf 6), .int i_1, .int z_19, .int (mf 9), .int 14, .int (mf 11), .int (mf 12), .int (mf 13), .int (mf 14), .int (mf 15), .int (mf 16), .ref (mm 6), .int (mf 18), .ref (mm 7), .ref (mm 8), .ref (mm 9), .int (mf 22), .ref (mm 10), .ref (mm 11), .int (mf 25), .int (mf 26), .ref (mm 12), .ref (mm 13), .int (mf 29), .ref (mm 14), .ref (mm 15), .ref (mm 16)])), ((mm 4), .inl (k 0, 900, .inl tf))] := hD
              exact W.vret hx hb hr (fun t ht hW => ⟨⟨(i_1, z_19, 14, (mf 11)), rfl, ⟨(show 0 ≤ i_1.toInt ∧ i_1.toInt ≤ 900 from ⟨by omega, by omega⟩), (show 0 ≤ z_19.toInt ∧ z_19.toInt ≤ 900 from ⟨by omega, by omega⟩), (show i_1.toInt ≤ z_19.toInt from by omega), (show z_19.toInt ≤ (mf 9).toInt from by omega), (show 14 = 13 ∨ i_1.toInt < z_19.toInt from by omega), (show (mf 8).toInt ≤ i_1.toInt from by omega)⟩, by rw [ht]; exact hP.sub [0, 1] rfl, hD.sub [0, 1] (by decide) rfl⟩, hS.F ht⟩) hS.2.2 dX8_nextToken_270
            · have c_21 : (SEE tf (mf 9) i_1).toInt = 59 := ti_eq c_21
              have qc_21 : (SEE tf (mf 9) i_1) = 59 := ti_of (show (SEE tf (mf 9) i_1).toInt = 59 from by omega)
              refine lv_bipush (v := 12) hx hb dX8_nextToken_260 (by decide) ?_
              refine lv_goto (tgt := 267) hx hb dX8_nextToken_262 (by decide) ?_
              refine va_put (D := D) (ci := 7) (v := .int 12) (ty := .int) (C := RX8) (T := TX8) (N := 33) hx hb hts inlX8 tyX8 tyX8_ok nmX8 hown hK hP hD hS 0 rfl rfl 10 (by decide) (hts _ mwn_290) (fun _ h9 => h9) rfl (by decide +kernel) rfl rfl (Nat.le_of_ble_eq_true rfl) dX8_nextToken_267 (fun H locs hP hD hS => ?_)
              replace hP : va_P D vwCl [((mm 0), .inr (7, [.int (mf 0), .ref (mm 1), .ref (mm 2), .ref (mm 3), .ref (mm 4), .ref (mm 5), .int (mf 6), .int i_1, .int z_19, .int (mf 9), .int 12, .int (mf 11), .int (mf 12), .int (mf 13), .int (mf 14), .int (mf 15), .int (mf 16), .ref (mm 6), .int (mf 18), .ref (mm 7), .ref (mm 8), .ref (mm 9), .int (mf 22), .ref (mm 10), .ref (mm 11), .int (mf 25), .int (mf 26), .ref (mm 12), .ref (mm 13), .int (mf 29), .ref (mm 14), .ref (mm 15), .ref (mm 16)])), ((mm 4), .inl (k 0, 900, .inl tf))] H := hP
              replace hD : va_D A [((mm 0), .inr (7, [.int (mf 0), .ref (mm 1), .ref (mm 2), .ref (mm 3), .ref (mm 4), .ref (mm 5), .int (mf 6), .int i_1, .int z_19, .int (mf 9), .int 12, .int (mf 11), .int (mf 12), .int (mf 13), .int (mf 14), .int (mf 15), .int (mf 16), .ref (mm 6), .int (mf 18), .ref (mm 7), .ref (mm 8), .ref (mm 9), .int (mf 22), .ref (mm 10), .ref (mm 11), .int (mf 25), .int (mf 26), .ref (mm 12), .ref (mm 13), .int (mf 29), .ref (mm 14), .ref (mm 15), .ref (mm 16)])), ((mm 4), .inl (k 0, 900, .inl tf))] := hD
              exact W.vret hx hb hr (fun t ht hW => ⟨⟨(i_1, z_19, 12, (mf 11)), rfl, ⟨(show 0 ≤ i_1.toInt ∧ i_1.toInt ≤ 900 from ⟨by omega, by omega⟩), (show 0 ≤ z_19.toInt ∧ z_19.toInt ≤ 900 from ⟨by omega, by omega⟩), (show i_1.toInt ≤ z_19.toInt from by omega), (show z_19.toInt ≤ (mf 9).toInt from by omega), (show 12 = 13 ∨ i_1.toInt < z_19.toInt from by omega), (show (mf 8).toInt ≤ i_1.toInt from by omega)⟩, by rw [ht]; exact hP.sub [0, 1] rfl, hD.sub [0, 1] (by decide) rfl⟩, hS.F ht⟩) hS.2.2 dX8_nextToken_270
          · have c_18 : r_17.toInt ≠ 0 := ti_ne c_18
            have qc_18 : r_17 = 1 := ti_of (show r_17.toInt = 1 from by omega)
            refine lv_aload_n hx hb dX8_nextToken_141 rfl (lv_at hl 0 rfl) ?_
            refine lv_iconst (v := 0) hx hb dX8_nextToken_142 (by decide) ?_
            refine va_put (D := D) (ci := 7) (v := .int 0) (ty := .int) (C := RX8) (T := TX8) (N := 33) hx hb hts inlX8 tyX8 tyX8_ok nmX8 hown hK hP hD hS 0 rfl rfl 11 (by decide) (hts _ mwn_302) (fun _ h9 => h9) rfl (by decide +kernel) rfl rfl (Nat.le_of_ble_eq_true rfl) dX8_nextToken_143 (fun H locs hP hD hS => ?_)
            replace hP : va_P D vwCl [((mm 0), .inr (7, [.int (mf 0), .ref (mm 1), .ref (mm 2), .ref (mm 3), .ref (mm 4), .ref (mm 5), .int (mf 6), .int i_1, .int i_1, .int (mf 9), .int (mf 10), .int 0, .int (mf 12), .int (mf 13), .int (mf 14), .int (mf 15), .int (mf 16), .ref (mm 6), .int (mf 18), .ref (mm 7), .ref (mm 8), .ref (mm 9), .int (mf 22), .ref (mm 10), .ref (mm 11), .int (mf 25), .int (mf 26), .ref (mm 12), .ref (mm 13), .int (mf 29), .ref (mm 14), .ref (mm 15), .ref (mm 16)])), ((mm 4), .inl (k 0, 900, .inl tf))] H := hP
            replace hD : va_D A [((mm 0), .inr (7, [.int (mf 0), .ref (mm 1), .ref (mm 2), .ref (mm 3), .ref (mm 4), .ref (mm 5), .int (mf 6), .int i_1, .int i_1, .int (mf 9), .int (mf 10), .int 0, .int (mf 12), .int (mf 13), .int (mf 14), .int (mf 15), .int (mf 16), .ref (mm 6), .int (mf 18), .ref (mm 7), .ref (mm 8), .ref (mm 9), .int (mf 22), .ref (mm 10), .ref (mm 11), .int (mf 25), .int (mf 26), .ref (mm 12), .ref (mm 13), .int (mf 29), .ref (mm 14), .ref (mm 15), .ref (mm 16)])), ((mm 4), .inl (k 0, 900, .inl tf))] := hD
            refine W_loop (σ := Int32 × Int32) (fun xx H locs ls => (i_1.toInt ≤ xx.1.toInt ∧ xx.1.toInt ≤ (mf 9).toInt) ∧ va_P D vwCl [((mm 0), .inr (7, [.int (mf 0), .ref (mm 1), .ref (mm 2), .ref (mm 3), .ref (mm 4), .ref (mm 5), .int (mf 6), .int i_1, .int xx.1, .int (mf 9), .int (mf 10), .int xx.2, .int (mf 12), .int (mf 13), .int (mf 14), .int (mf 15), .int (mf 16), .ref (mm 6), .int (mf 18), .ref (mm 7), .ref (mm 8), .ref (mm 9), .int (mf 22), .ref (mm 10), .ref (mm 11), .int (mf 25), .int (mf 26), .ref (mm 12), .ref (mm 13), .int (mf 29), .ref (mm 14), .ref (mm 15), .ref (mm 16)])), ((mm 4), .inl (k 0, 900, .inl tf))] H ∧ va_D A [((mm 0), .inr (7, [.int (mf 0), .ref (mm 1), .ref (mm 2), .ref (mm 3), .ref (mm 4), .ref (mm 5), .int (mf 6), .int i_1, .int xx.1, .int (mf 9), .int (mf 10), .int xx.2, .int (mf 12), .int (mf 13), .int (mf 14), .int (mf 15), .int (mf 16), .ref (mm 6), .int (mf 18), .ref (mm 7), .ref (mm 8), .ref (mm 9), .int (mf 22), .ref (mm 10), .ref (mm 11), .int (mf 25), .int (mf 26), .ref (mm 12), .ref (mm 13), .int (mf 29), .ref (mm 14), .ref (mm 15), .ref (mm 16)])), ((mm 4), .inl (k 0, 900, .inl tf))] ∧ va_S A s.heap H locs ∧ lv_has ls 1 [(0, .ref (mm 0))]) (fun xx => ((mf 9).toInt - xx.1.toInt).toNat) ?_ (i_1, 0) _ _ ls ⟨(show i_1.toInt ≤ i_1.toInt ∧ i_1.toInt ≤ (mf 9).toInt from ⟨by omega, by omega⟩), hP.sub [0, 1] rfl, hD.sub [0, 1] (by decide) rfl, hS, lv_sub hl [0] rfl⟩
            intro xx H locs ls hI ih146
            obtain ⟨i_22, y_23⟩ := xx
            obtain ⟨h_24, hP, hD, hS, hl⟩ := hI
            replace h_24 : i_1.toInt ≤ i_22.toInt ∧ i_22.toInt ≤ (mf 9).toInt := h_24
            obtain ⟨h_24a, h_24b⟩ := h_24
            replace hP : va_P D vwCl [((mm 0), .inr (7, [.int (mf 0), .ref (mm 1), .ref (mm 2), .ref (mm 3), .ref (mm 4), .ref (mm 5), .int (mf 6), .int i_1, .int i_22, .int (mf 9), .int (mf 10), .int y_23, .int (mf 12), .int (mf 13), .int (mf 14), .int (mf 15), .int (mf 16), .ref (mm 6), .int (mf 18), .ref (mm 7), .ref (mm 8), .ref (mm 9), .int (mf 22), .ref (mm 10), .ref (mm 11), .int (mf 25), .int (mf 26), .ref (mm 12), .ref (mm 13), .int (mf 29), .ref (mm 14), .ref (mm 15), .ref (mm 16)])), ((mm 4), .inl (k 0, 900, .inl tf))] H := hP
            replace hD : va_D A [((mm 0), .inr (7, [.int (mf 0), .ref (mm 1), .ref (mm 2), .ref (mm 3), .ref (mm 4), .ref (mm 5), .int (mf 6), .int i_1, .int i_22, .int (mf 9), .int (mf 10), .int y_23, .int (mf 12), .int (mf 13), .int (mf 14), .int (mf 15), .int (mf 16), .ref (mm 6), .int (mf 18), .ref (mm 7), .ref (mm 8), .ref (mm 9), .int (mf 22), .ref (mm 10), .ref (mm 11), .int (mf 25), .int (mf 26), .ref (mm 12), .ref (mm 13), .int (mf 29), .ref (mm 14), .ref (mm 15), .ref (mm 16)])), ((mm 4), .inl (k 0, 900, .inl tf))] := hD
            replace hl : lv_has ls 1 [(0, .ref (mm 0))] := hl
            refine lv_aload_n hx hb dX8_nextToken_146 rfl (lv_at hl 0 rfl) ?_
            refine lv_aload_n hx hb dX8_nextToken_147 rfl (lv_at hl 0 rfl) ?_
            refine va_get (D := D) (ci := 7) (v := .int i_22) (C := RX8) (T := TX8) (N := 33) hx hb hts inlX8 hown hK hP 0 rfl rfl 8 (by decide) (hts _ mwn_288) (fun _ h9 => h9) rfl dX8_nextToken_148 ?_
            refine kV_i (q0 := 0) (As := [.int i_22]) (rest := []) ⟨hx, hb, hml, hown, hts⟩ (s_M_see l D k _ (va_seli [(mf 0), 0, 0, 0, 0, 0, (mf 6), i_1, i_22, (mf 9), (mf 10), y_23, (mf 12), (mf 13), (mf 14), (mf 15), (mf 16), 0, (mf 18), 0, 0, 0, (mf 22), 0, 0, (mf 25), (mf 26), 0, 0, (mf 29)]) tf i_22 (show 0 ≤ i_22.toInt ∧ i_22.toInt ≤ 901 from ⟨by omega, by omega⟩) (show 0 ≤ (mf 9).toInt ∧ (mf 9).toInt ≤ 900 from ⟨by omega, by omega⟩)) (gV mwn_303 mwn_304 mwn_305 mwn_5 mwn_306) hdn_yX8_see rfl rfl ⟨Nat.le_of_ble_eq_true rfl, Nat.le_of_ble_eq_true rfl⟩ hK hN0 (hP.sub [0, 1] rfl) rfl rfl rfl rfl hl.1 rfl (Nat.le_of_ble_eq_true rfl) dX8_nextToken_151 ⟨Nat.le_of_ble_eq_true rfl, Nat.le_of_ble_eq_true rfl⟩ (fun r_25 hr_25 => ?_)
            obtain rfl : r_25 = (SEE tf (mf 9) i_22) := hr_25
            have hs_26 : (SEE tf (mf 9) i_22).toInt = -1 ∨ i_22.toInt < (mf 9).toInt := SEE_b
            refine kS_i (As := [.int (SEE tf (mf 9) i_22)]) (rest := []) ⟨hx, hb, hml, hown, hts⟩ (s_M_isDigit l D k (SEE tf (mf 9) i_22)) (gS mwn_316 mwn_317 mwn_5 mwn_318) hdn_yX8_isDigit rfl rfl ⟨Nat.le_of_ble_eq_true rfl, Nat.le_of_ble_eq_true rfl⟩ hK hN0 (hP.sub [] rfl) rfl hl.1 rfl (Nat.le_of_ble_eq_true rfl) dX8_nextToken_154 ⟨Nat.le_of_ble_eq_true rfl, Nat.le_of_ble_eq_true rfl⟩ (fun r_27 hr_27 => ?_)
            replace hr_27 : (r_27.toInt = 0 ∧ ((SEE tf (mf 9) i_22).toInt < 48 ∨ 57 < (SEE tf (mf 9) i_22).toInt)) ∨ (r_27.toInt = 1 ∧ 48 ≤ (SEE tf (mf 9) i_22).toInt ∧ (SEE tf (mf 9) i_22).toInt ≤ 57) := hr_27
            refine lv_if_eq (tgt := 209) hx hb dX8_nextToken_157 (by decide) (fun c_28 => ?_) (fun c_28 => ?_)
            · have c_28 : r_27.toInt = 0 := ti_eq c_28
              have qc_28 : r_27 = 0 := ti_of (show r_27.toInt = 0 from by omega)
              have hab : i_1.toInt < i_22.toInt := SEE_ne (f := tf) (n := (mf 9)) (by omega) (by omega)
              refine lv_aload_n hx hb dX8_nextToken_209 rfl (lv_at hl 0 rfl) ?_
              refine lv_aload_n hx hb dX8_nextToken_210 rfl (lv_at hl 0 rfl) ?_
              refine va_get (D := D) (ci := 7) (v := .int i_22) (C := RX8) (T := TX8) (N := 33) hx hb hts inlX8 hown hK hP 0 rfl rfl 8 (by decide) (hts _ mwn_288) (fun _ h9 => h9) rfl dX8_nextToken_211 ?_
              refine lv_aload_n hx hb dX8_nextToken_214 rfl (lv_at hl 0 rfl) ?_
              refine va_get (D := D) (ci := 7) (v := .int i_1) (C := RX8) (T := TX8) (N := 33) hx hb hts inlX8 hown hK hP 0 rfl rfl 7 (by decide) (hts _ mwn_301) (fun _ h9 => h9) rfl dX8_nextToken_215 ?_
              refine lv_isub hx hb dX8_nextToken_218 ?_
              refine lv_topi (fun z_29 ez_29 => ?_)
              have tz_29 : z_29.toInt = i_22.toInt - i_1.toInt := by rw [ez_29]; exact ti_subc rfl (by omega) (by omega)
              refine lv_iconst (v := 3) hx hb dX8_nextToken_219 (by decide) ?_
              refine lv_icmp_le (tgt := 228) hx hb dX8_nextToken_220 (by decide) (fun c_30 => ?_) (fun c_30 => ?_)
              · have c_30 : z_29.toInt ≤ 3 := ti_le c_30
                refine lv_bipush (v := 11) hx hb dX8_nextToken_228 (by decide) ?_
                refine va_put (D := D) (ci := 7) (v := .int 11) (ty := .int) (C := RX8) (T := TX8) (N := 33) hx hb hts inlX8 tyX8 tyX8_ok nmX8 hown hK hP hD hS 0 rfl rfl 10 (by decide) (hts _ mwn_290) (fun _ h9 => h9) rfl (by decide +kernel) rfl rfl (Nat.le_of_ble_eq_true rfl) dX8_nextToken_230 (fun H locs hP hD hS => ?_)
                replace hP : va_P D vwCl [((mm 0), .inr (7, [.int (mf 0), .ref (mm 1), .ref (mm 2), .ref (mm 3), .ref (mm 4), .ref (mm 5), .int (mf 6), .int i_1, .int i_22, .int (mf 9), .int 11, .int y_23, .int (mf 12), .int (mf 13), .int (mf 14), .int (mf 15), .int (mf 16), .ref (mm 6), .int (mf 18), .ref (mm 7), .ref (mm 8), .ref (mm 9), .int (mf 22), .ref (mm 10), .ref (mm 11), .int (mf 25), .int (mf 26), .ref (mm 12), .ref (mm 13), .int (mf 29), .ref (mm 14), .ref (mm 15), .ref (mm 16)])), ((mm 4), .inl (k 0, 900, .inl tf))] H := hP
                replace hD : va_D A [((mm 0), .inr (7, [.int (mf 0), .ref (mm 1), .ref (mm 2), .ref (mm 3), .ref (mm 4), .ref (mm 5), .int (mf 6), .int i_1, .int i_22, .int (mf 9), .int 11, .int y_23, .int (mf 12), .int (mf 13), .int (mf 14), .int (mf 15), .int (mf 16), .ref (mm 6), .int (mf 18), .ref (mm 7), .ref (mm 8), .ref (mm 9), .int (mf 22), .ref (mm 10), .ref (mm 11), .int (mf 25), .int (mf 26), .ref (mm 12), .ref (mm 13), .int (mf 29), .ref (mm 14), .ref (mm 15), .ref (mm 16)])), ((mm 4), .inl (k 0, 900, .inl tf))] := hD
                refine lv_goto (tgt := 270) hx hb dX8_nextToken_233 (by decide) ?_
                exact W.vret hx hb hr (fun t ht hW => ⟨⟨(i_1, i_22, 11, y_23), rfl, ⟨(show 0 ≤ i_1.toInt ∧ i_1.toInt ≤ 900 from ⟨by omega, by omega⟩), (show 0 ≤ i_22.toInt ∧ i_22.toInt ≤ 900 from ⟨by omega, by omega⟩), (show i_1.toInt ≤ i_22.toInt from by omega), (show i_22.toInt ≤ (mf 9).toInt from by omega), (show 11 = 13 ∨ i_1.toInt < i_22.toInt from by omega), (show (mf 8).toInt ≤ i_1.toInt from by omega)⟩, by rw [ht]; exact hP.sub [0, 1] rfl, hD.sub [0, 1] (by decide) rfl⟩, hS.F ht⟩) hS.2.2 dX8_nextToken_270
              · have c_30 : 3 < z_29.toInt := ti_nle c_30
                refine lv_bipush (v := 14) hx hb dX8_nextToken_223 (by decide) ?_
                refine lv_goto (tgt := 230) hx hb dX8_nextToken_225 (by decide) ?_
                refine va_put (D := D) (ci := 7) (v := .int 14) (ty := .int) (C := RX8) (T := TX8) (N := 33) hx hb hts inlX8 tyX8 tyX8_ok nmX8 hown hK hP hD hS 0 rfl rfl 10 (by decide) (hts _ mwn_290) (fun _ h9 => h9) rfl (by decide +kernel) rfl rfl (Nat.le_of_ble_eq_true rfl) dX8_nextToken_230 (fun H locs hP hD hS => ?_)
                replace hP : va_P D vwCl [((mm 0), .inr (7, [.int (mf 0), .ref (mm 1), .ref (mm 2), .ref (mm 3), .ref (mm 4), .ref (mm 5), .int (mf 6), .int i_1, .int i_22, .int (mf 9), .int 14, .int y_23, .int (mf 12), .int (mf 13), .int (mf 14), .int (mf 15), .int (mf 16), .ref (mm 6), .int (mf 18), .ref (mm 7), .ref (mm 8), .ref (mm 9), .int (mf 22), .ref (mm 10), .ref (mm 11), .int (mf 25), .int (mf 26), .ref (mm 12), .ref (mm 13), .int (mf 29), .ref (mm 14), .ref (mm 15), .ref (mm 16)])), ((mm 4), .inl (k 0, 900, .inl tf))] H := hP
                replace hD : va_D A [((mm 0), .inr (7, [.int (mf 0), .ref (mm 1), .ref (mm 2), .ref (mm 3), .ref (mm 4), .ref (mm 5), .int (mf 6), .int i_1, .int i_22, .int (mf 9), .int 14, .int y_23, .int (mf 12), .int (mf 13), .int (mf 14), .int (mf 15), .int (mf 16), .ref (mm 6), .int (mf 18), .ref (mm 7), .ref (mm 8), .ref (mm 9), .int (mf 22), .ref (mm 10), .ref (mm 11), .int (mf 25), .int (mf 26), .ref (mm 12), .ref (mm 13), .int (mf 29), .ref (mm 14), .ref (mm 15), .ref (mm 16)])), ((mm 4), .inl (k 0, 900, .inl tf))] := hD
                refine lv_goto (tgt := 270) hx hb dX8_nextToken_233 (by decide) ?_
                exact W.vret hx hb hr (fun t ht hW => ⟨⟨(i_1, i_22, 14, y_23), rfl, ⟨(show 0 ≤ i_1.toInt ∧ i_1.toInt ≤ 900 from ⟨by omega, by omega⟩), (show 0 ≤ i_22.toInt ∧ i_22.toInt ≤ 900 from ⟨by omega, by omega⟩), (show i_1.toInt ≤ i_22.toInt from by omega), (show i_22.toInt ≤ (mf 9).toInt from by omega), (show 14 = 13 ∨ i_1.toInt < i_22.toInt from by omega), (show (mf 8).toInt ≤ i_1.toInt from by omega)⟩, by rw [ht]; exact hP.sub [0, 1] rfl, hD.sub [0, 1] (by decide) rfl⟩, hS.F ht⟩) hS.2.2 dX8_nextToken_270
            · have c_28 : r_27.toInt ≠ 0 := ti_ne c_28
              have qc_28 : r_27 = 1 := ti_of (show r_27.toInt = 1 from by omega)
              refine lv_aload_n hx hb dX8_nextToken_160 rfl (lv_at hl 0 rfl) ?_
              refine va_get (D := D) (ci := 7) (v := .int i_22) (C := RX8) (T := TX8) (N := 33) hx hb hts inlX8 hown hK hP 0 rfl rfl 8 (by decide) (hts _ mwn_288) (fun _ h9 => h9) rfl dX8_nextToken_161 ?_
              refine lv_aload_n hx hb dX8_nextToken_164 rfl (lv_at hl 0 rfl) ?_
              refine va_get (D := D) (ci := 7) (v := .int i_1) (C := RX8) (T := TX8) (N := 33) hx hb hts inlX8 hown hK hP 0 rfl rfl 7 (by decide) (hts _ mwn_301) (fun _ h9 => h9) rfl dX8_nextToken_165 ?_
              refine lv_isub hx hb dX8_nextToken_168 ?_
              refine lv_topi (fun z_31 ez_31 => ?_)
              have tz_31 : z_31.toInt = i_22.toInt - i_1.toInt := by rw [ez_31]; exact ti_subc rfl (by omega) (by omega)
              refine lv_iconst (v := 3) hx hb dX8_nextToken_169 (by decide) ?_
              refine lv_icmp_ge (tgt := 196) hx hb dX8_nextToken_170 (by decide) (fun c_32 => ?_) (fun c_32 => ?_)
              · have c_32 : 3 ≤ z_31.toInt := ti_le c_32
                refine lv_aload_n hx hb dX8_nextToken_196 rfl (lv_at hl 0 rfl) ?_
                refine lv_dup hx hb dX8_nextToken_197 rfl ?_
                refine va_get (D := D) (ci := 7) (v := .int i_22) (C := RX8) (T := TX8) (N := 33) hx hb hts inlX8 hown hK hP 0 rfl rfl 8 (by decide) (hts _ mwn_288) (fun _ h9 => h9) rfl dX8_nextToken_198 ?_
                refine lv_iconst (v := 1) hx hb dX8_nextToken_201 (by decide) ?_
                refine lv_iadd hx hb dX8_nextToken_202 ?_
                refine lv_topi (fun z_33 ez_33 => ?_)
                have tz_33 : z_33.toInt = i_22.toInt + 1 := by rw [ez_33]; exact ti_addc (by decide) (by omega) (by omega)
                refine va_put (D := D) (ci := 7) (v := .int z_33) (ty := .int) (C := RX8) (T := TX8) (N := 33) hx hb hts inlX8 tyX8 tyX8_ok nmX8 hown hK hP hD hS 0 rfl rfl 8 (by decide) (hts _ mwn_288) (fun _ h9 => h9) rfl (by decide +kernel) rfl rfl (Nat.le_of_ble_eq_true rfl) dX8_nextToken_203 (fun H locs hP hD hS => ?_)
                replace hP : va_P D vwCl [((mm 0), .inr (7, [.int (mf 0), .ref (mm 1), .ref (mm 2), .ref (mm 3), .ref (mm 4), .ref (mm 5), .int (mf 6), .int i_1, .int z_33, .int (mf 9), .int (mf 10), .int y_23, .int (mf 12), .int (mf 13), .int (mf 14), .int (mf 15), .int (mf 16), .ref (mm 6), .int (mf 18), .ref (mm 7), .ref (mm 8), .ref (mm 9), .int (mf 22), .ref (mm 10), .ref (mm 11), .int (mf 25), .int (mf 26), .ref (mm 12), .ref (mm 13), .int (mf 29), .ref (mm 14), .ref (mm 15), .ref (mm 16)])), ((mm 4), .inl (k 0, 900, .inl tf))] H := hP
                replace hD : va_D A [((mm 0), .inr (7, [.int (mf 0), .ref (mm 1), .ref (mm 2), .ref (mm 3), .ref (mm 4), .ref (mm 5), .int (mf 6), .int i_1, .int z_33, .int (mf 9), .int (mf 10), .int y_23, .int (mf 12), .int (mf 13), .int (mf 14), .int (mf 15), .int (mf 16), .ref (mm 6), .int (mf 18), .ref (mm 7), .ref (mm 8), .ref (mm 9), .int (mf 22), .ref (mm 10), .ref (mm 11), .int (mf 25), .int (mf 26), .ref (mm 12), .ref (mm 13), .int (mf 29), .ref (mm 14), .ref (mm 15), .ref (mm 16)])), ((mm 4), .inl (k 0, 900, .inl tf))] := hD
                refine lv_goto (tgt := 146) hx hb dX8_nextToken_206 (by decide) ?_
                exact ih146 (z_33, y_23) _ _ ls (by show ((mf 9).toInt - z_33.toInt).toNat < ((mf 9).toInt - i_22.toInt).toNat; omega) ⟨(show i_1.toInt ≤ z_33.toInt ∧ z_33.toInt ≤ (mf 9).toInt from ⟨by omega, by omega⟩), hP.sub [0, 1] rfl, hD.sub [0, 1] (by decide) rfl, hS, lv_sub hl [0] rfl⟩
              · have c_32 : z_31.toInt < 3 := ti_nle c_32
                refine lv_aload_n hx hb dX8_nextToken_173 rfl (lv_at hl 0 rfl) ?_
                refine lv_bipush (v := 10) hx hb dX8_nextToken_174 (by decide) ?_
                refine lv_aload_n hx hb dX8_nextToken_176 rfl (lv_at hl 0 rfl) ?_
                refine va_get (D := D) (ci := 7) (v := .int y_23) (C := RX8) (T := TX8) (N := 33) hx hb hts inlX8 hown hK hP 0 rfl rfl 11 (by decide) (hts _ mwn_302) (fun _ h9 => h9) rfl dX8_nextToken_177 ?_
                refine lv_imul hx hb dX8_nextToken_180 ?_
                refine lv_topi (fun z_34 ez_34 => ?_)
                refine lv_aload_n hx hb dX8_nextToken_181 rfl (lv_at hl 0 rfl) ?_
                refine lv_aload_n hx hb dX8_nextToken_182 rfl (lv_at hl 0 rfl) ?_
                refine va_get (D := D) (ci := 7) (v := .int i_22) (C := RX8) (T := TX8) (N := 33) hx hb hts inlX8 hown hK hP 0 rfl rfl 8 (by decide) (hts _ mwn_288) (fun _ h9 => h9) rfl dX8_nextToken_183 ?_
                refine kV_i (q0 := 0) (As := [.int i_22]) (rest := [.int z_34, .ref (mm 0)]) ⟨hx, hb, hml, hown, hts⟩ (s_M_see l D k _ (va_seli [(mf 0), 0, 0, 0, 0, 0, (mf 6), i_1, i_22, (mf 9), (mf 10), y_23, (mf 12), (mf 13), (mf 14), (mf 15), (mf 16), 0, (mf 18), 0, 0, 0, (mf 22), 0, 0, (mf 25), (mf 26), 0, 0, (mf 29)]) tf i_22 (show 0 ≤ i_22.toInt ∧ i_22.toInt ≤ 901 from ⟨by omega, by omega⟩) (show 0 ≤ (mf 9).toInt ∧ (mf 9).toInt ≤ 900 from ⟨by omega, by omega⟩)) (gV mwn_303 mwn_304 mwn_305 mwn_5 mwn_306) hdn_yX8_see rfl rfl ⟨Nat.le_of_ble_eq_true rfl, Nat.le_of_ble_eq_true rfl⟩ hK hN0 (hP.sub [0, 1] rfl) rfl rfl rfl rfl hl.1 rfl (Nat.le_of_ble_eq_true rfl) dX8_nextToken_186 ⟨Nat.le_of_ble_eq_true rfl, Nat.le_of_ble_eq_true rfl⟩ (fun r_35 hr_35 => ?_)
                obtain rfl : r_35 = (SEE tf (mf 9) i_22) := hr_35
                refine lv_iadd hx hb dX8_nextToken_189 ?_
                refine lv_topi (fun z_36 ez_36 => ?_)
                refine lv_bipush (v := 48) hx hb dX8_nextToken_190 (by decide) ?_
                refine lv_isub hx hb dX8_nextToken_192 ?_
                refine lv_topi (fun z_37 ez_37 => ?_)
                refine va_put (D := D) (ci := 7) (v := .int z_37) (ty := .int) (C := RX8) (T := TX8) (N := 33) hx hb hts inlX8 tyX8 tyX8_ok nmX8 hown hK hP hD hS 0 rfl rfl 11 (by decide) (hts _ mwn_302) (fun _ h9 => h9) rfl (by decide +kernel) rfl rfl (Nat.le_of_ble_eq_true rfl) dX8_nextToken_193 (fun H locs hP hD hS => ?_)
                replace hP : va_P D vwCl [((mm 0), .inr (7, [.int (mf 0), .ref (mm 1), .ref (mm 2), .ref (mm 3), .ref (mm 4), .ref (mm 5), .int (mf 6), .int i_1, .int i_22, .int (mf 9), .int (mf 10), .int z_37, .int (mf 12), .int (mf 13), .int (mf 14), .int (mf 15), .int (mf 16), .ref (mm 6), .int (mf 18), .ref (mm 7), .ref (mm 8), .ref (mm 9), .int (mf 22), .ref (mm 10), .ref (mm 11), .int (mf 25), .int (mf 26), .ref (mm 12), .ref (mm 13), .int (mf 29), .ref (mm 14), .ref (mm 15), .ref (mm 16)])), ((mm 4), .inl (k 0, 900, .inl tf))] H := hP
                replace hD : va_D A [((mm 0), .inr (7, [.int (mf 0), .ref (mm 1), .ref (mm 2), .ref (mm 3), .ref (mm 4), .ref (mm 5), .int (mf 6), .int i_1, .int i_22, .int (mf 9), .int (mf 10), .int z_37, .int (mf 12), .int (mf 13), .int (mf 14), .int (mf 15), .int (mf 16), .ref (mm 6), .int (mf 18), .ref (mm 7), .ref (mm 8), .ref (mm 9), .int (mf 22), .ref (mm 10), .ref (mm 11), .int (mf 25), .int (mf 26), .ref (mm 12), .ref (mm 13), .int (mf 29), .ref (mm 14), .ref (mm 15), .ref (mm 16)])), ((mm 4), .inl (k 0, 900, .inl tf))] := hD
                refine lv_aload_n hx hb dX8_nextToken_196 rfl (lv_at hl 0 rfl) ?_
                refine lv_dup hx hb dX8_nextToken_197 rfl ?_
                refine va_get (D := D) (ci := 7) (v := .int i_22) (C := RX8) (T := TX8) (N := 33) hx hb hts inlX8 hown hK hP 0 rfl rfl 8 (by decide) (hts _ mwn_288) (fun _ h9 => h9) rfl dX8_nextToken_198 ?_
                refine lv_iconst (v := 1) hx hb dX8_nextToken_201 (by decide) ?_
                refine lv_iadd hx hb dX8_nextToken_202 ?_
                refine lv_topi (fun z_38 ez_38 => ?_)
                have tz_38 : z_38.toInt = i_22.toInt + 1 := by rw [ez_38]; exact ti_addc (by decide) (by omega) (by omega)
                refine va_put (D := D) (ci := 7) (v := .int z_38) (ty := .int) (C := RX8) (T := TX8) (N := 33) hx hb hts inlX8 tyX8 tyX8_ok nmX8 hown hK hP hD hS 0 rfl rfl 8 (by decide) (hts _ mwn_288) (fun _ h9 => h9) rfl (by decide +kernel) rfl rfl (Nat.le_of_ble_eq_true rfl) dX8_nextToken_203 (fun H locs hP hD hS => ?_)
                replace hP : va_P D vwCl [((mm 0), .inr (7, [.int (mf 0), .ref (mm 1), .ref (mm 2), .ref (mm 3), .ref (mm 4), .ref (mm 5), .int (mf 6), .int i_1, .int z_38, .int (mf 9), .int (mf 10), .int z_37, .int (mf 12), .int (mf 13), .int (mf 14), .int (mf 15), .int (mf 16), .ref (mm 6), .int (mf 18), .ref (mm 7), .ref (mm 8), .ref (mm 9), .int (mf 22), .ref (mm 10), .ref (mm 11), .int (mf 25), .int (mf 26), .ref (mm 12), .ref (mm 13), .int (mf 29), .ref (mm 14), .ref (mm 15), .ref (mm 16)])), ((mm 4), .inl (k 0, 900, .inl tf))] H := hP
                replace hD : va_D A [((mm 0), .inr (7, [.int (mf 0), .ref (mm 1), .ref (mm 2), .ref (mm 3), .ref (mm 4), .ref (mm 5), .int (mf 6), .int i_1, .int z_38, .int (mf 9), .int (mf 10), .int z_37, .int (mf 12), .int (mf 13), .int (mf 14), .int (mf 15), .int (mf 16), .ref (mm 6), .int (mf 18), .ref (mm 7), .ref (mm 8), .ref (mm 9), .int (mf 22), .ref (mm 10), .ref (mm 11), .int (mf 25), .int (mf 26), .ref (mm 12), .ref (mm 13), .int (mf 29), .ref (mm 14), .ref (mm 15), .ref (mm 16)])), ((mm 4), .inl (k 0, 900, .inl tf))] := hD
                refine lv_goto (tgt := 146) hx hb dX8_nextToken_206 (by decide) ?_
                exact ih146 (z_38, z_37) _ _ ls (by show ((mf 9).toInt - z_38.toInt).toNat < ((mf 9).toInt - i_22.toInt).toNat; omega) ⟨(show i_1.toInt ≤ z_38.toInt ∧ z_38.toInt ≤ (mf 9).toInt from ⟨by omega, by omega⟩), hP.sub [0, 1] rfl, hD.sub [0, 1] (by decide) rfl, hS, lv_sub hl [0] rfl⟩
        · have c_14 : r_13.toInt ≠ 0 := ti_ne c_14
          have qc_14 : r_13 = 1 := ti_of (show r_13.toInt = 1 from by omega)
          refine W_loop (σ := Int32) (fun xx H locs ls => (i_1.toInt ≤ xx.toInt ∧ xx.toInt ≤ (mf 9).toInt) ∧ va_P D vwCl [((mm 0), .inr (7, [.int (mf 0), .ref (mm 1), .ref (mm 2), .ref (mm 3), .ref (mm 4), .ref (mm 5), .int (mf 6), .int i_1, .int xx, .int (mf 9), .int (mf 10), .int (mf 11), .int (mf 12), .int (mf 13), .int (mf 14), .int (mf 15), .int (mf 16), .ref (mm 6), .int (mf 18), .ref (mm 7), .ref (mm 8), .ref (mm 9), .int (mf 22), .ref (mm 10), .ref (mm 11), .int (mf 25), .int (mf 26), .ref (mm 12), .ref (mm 13), .int (mf 29), .ref (mm 14), .ref (mm 15), .ref (mm 16)])), ((mm 4), .inl (k 0, 900, .inl tf))] H ∧ va_D A [((mm 0), .inr (7, [.int (mf 0), .ref (mm 1), .ref (mm 2), .ref (mm 3), .ref (mm 4), .ref (mm 5), .int (mf 6), .int i_1, .int xx, .int (mf 9), .int (mf 10), .int (mf 11), .int (mf 12), .int (mf 13), .int (mf 14), .int (mf 15), .int (mf 16), .ref (mm 6), .int (mf 18), .ref (mm 7), .ref (mm 8), .ref (mm 9), .int (mf 22), .ref (mm 10), .ref (mm 11), .int (mf 25), .int (mf 26), .ref (mm 12), .ref (mm 13), .int (mf 29), .ref (mm 14), .ref (mm 15), .ref (mm 16)])), ((mm 4), .inl (k 0, 900, .inl tf))] ∧ va_S A s.heap H locs ∧ lv_has ls 1 [(0, .ref (mm 0))]) (fun xx => ((mf 9).toInt - xx.toInt).toNat) ?_ (i_1) _ _ ls ⟨(show i_1.toInt ≤ i_1.toInt ∧ i_1.toInt ≤ (mf 9).toInt from ⟨by omega, by omega⟩), hP.sub [0, 1] rfl, hD.sub [0, 1] (by decide) rfl, hS, lv_sub hl [0] rfl⟩
          intro xx H locs ls hI ih89
          obtain ⟨i_39, rfl⟩ : ∃ z, z = xx := ⟨_, rfl⟩
          obtain ⟨h_40, hP, hD, hS, hl⟩ := hI
          replace h_40 : i_1.toInt ≤ i_39.toInt ∧ i_39.toInt ≤ (mf 9).toInt := h_40
          obtain ⟨h_40a, h_40b⟩ := h_40
          replace hP : va_P D vwCl [((mm 0), .inr (7, [.int (mf 0), .ref (mm 1), .ref (mm 2), .ref (mm 3), .ref (mm 4), .ref (mm 5), .int (mf 6), .int i_1, .int i_39, .int (mf 9), .int (mf 10), .int (mf 11), .int (mf 12), .int (mf 13), .int (mf 14), .int (mf 15), .int (mf 16), .ref (mm 6), .int (mf 18), .ref (mm 7), .ref (mm 8), .ref (mm 9), .int (mf 22), .ref (mm 10), .ref (mm 11), .int (mf 25), .int (mf 26), .ref (mm 12), .ref (mm 13), .int (mf 29), .ref (mm 14), .ref (mm 15), .ref (mm 16)])), ((mm 4), .inl (k 0, 900, .inl tf))] H := hP
          replace hD : va_D A [((mm 0), .inr (7, [.int (mf 0), .ref (mm 1), .ref (mm 2), .ref (mm 3), .ref (mm 4), .ref (mm 5), .int (mf 6), .int i_1, .int i_39, .int (mf 9), .int (mf 10), .int (mf 11), .int (mf 12), .int (mf 13), .int (mf 14), .int (mf 15), .int (mf 16), .ref (mm 6), .int (mf 18), .ref (mm 7), .ref (mm 8), .ref (mm 9), .int (mf 22), .ref (mm 10), .ref (mm 11), .int (mf 25), .int (mf 26), .ref (mm 12), .ref (mm 13), .int (mf 29), .ref (mm 14), .ref (mm 15), .ref (mm 16)])), ((mm 4), .inl (k 0, 900, .inl tf))] := hD
          replace hl : lv_has ls 1 [(0, .ref (mm 0))] := hl
          refine lv_aload_n hx hb dX8_nextToken_89 rfl (lv_at hl 0 rfl) ?_
          refine lv_aload_n hx hb dX8_nextToken_90 rfl (lv_at hl 0 rfl) ?_
          refine va_get (D := D) (ci := 7) (v := .int i_39) (C := RX8) (T := TX8) (N := 33) hx hb hts inlX8 hown hK hP 0 rfl rfl 8 (by decide) (hts _ mwn_288) (fun _ h9 => h9) rfl dX8_nextToken_91 ?_
          refine kV_i (q0 := 0) (As := [.int i_39]) (rest := []) ⟨hx, hb, hml, hown, hts⟩ (s_M_see l D k _ (va_seli [(mf 0), 0, 0, 0, 0, 0, (mf 6), i_1, i_39, (mf 9), (mf 10), (mf 11), (mf 12), (mf 13), (mf 14), (mf 15), (mf 16), 0, (mf 18), 0, 0, 0, (mf 22), 0, 0, (mf 25), (mf 26), 0, 0, (mf 29)]) tf i_39 (show 0 ≤ i_39.toInt ∧ i_39.toInt ≤ 901 from ⟨by omega, by omega⟩) (show 0 ≤ (mf 9).toInt ∧ (mf 9).toInt ≤ 900 from ⟨by omega, by omega⟩)) (gV mwn_303 mwn_304 mwn_305 mwn_5 mwn_306) hdn_yX8_see rfl rfl ⟨Nat.le_of_ble_eq_true rfl, Nat.le_of_ble_eq_true rfl⟩ hK hN0 (hP.sub [0, 1] rfl) rfl rfl rfl rfl hl.1 rfl (Nat.le_of_ble_eq_true rfl) dX8_nextToken_94 ⟨Nat.le_of_ble_eq_true rfl, Nat.le_of_ble_eq_true rfl⟩ (fun r_41 hr_41 => ?_)
          obtain rfl : r_41 = (SEE tf (mf 9) i_39) := hr_41
          have hs_42 : (SEE tf (mf 9) i_39).toInt = -1 ∨ i_39.toInt < (mf 9).toInt := SEE_b
          refine kS_i (As := [.int (SEE tf (mf 9) i_39)]) (rest := []) ⟨hx, hb, hml, hown, hts⟩ (s_M_isSmall l D k (SEE tf (mf 9) i_39)) (gS mwn_307 mwn_308 mwn_5 mwn_309) hdn_yX8_isSmall rfl rfl ⟨Nat.le_of_ble_eq_true rfl, Nat.le_of_ble_eq_true rfl⟩ hK hN0 (hP.sub [] rfl) rfl hl.1 rfl (Nat.le_of_ble_eq_true rfl) dX8_nextToken_97 ⟨Nat.le_of_ble_eq_true rfl, Nat.le_of_ble_eq_true rfl⟩ (fun r_43 hr_43 => ?_)
          replace hr_43 : (r_43.toInt = 0 ∧ ((SEE tf (mf 9) i_39).toInt < 97 ∨ 122 < (SEE tf (mf 9) i_39).toInt)) ∨ (r_43.toInt = 1 ∧ 97 ≤ (SEE tf (mf 9) i_39).toInt ∧ (SEE tf (mf 9) i_39).toInt ≤ 122) := hr_43
          refine lv_if_eq (tgt := 116) hx hb dX8_nextToken_100 (by decide) (fun c_44 => ?_) (fun c_44 => ?_)
          · have c_44 : r_43.toInt = 0 := ti_eq c_44
            have qc_44 : r_43 = 0 := ti_of (show r_43.toInt = 0 from by omega)
            have hab : i_1.toInt < i_39.toInt := SEE_ne (f := tf) (n := (mf 9)) (by omega) (by omega)
            refine lv_aload_n hx hb dX8_nextToken_116 rfl (lv_at hl 0 rfl) ?_
            refine lv_aload_n hx hb dX8_nextToken_117 rfl (lv_at hl 0 rfl) ?_
            refine kV_is (q0 := 0) (As := []) (rest := [.ref (mm 0)]) ⟨hx, hb, hml, hown, hts⟩ (s_M_keyAt l D k ak av _ (va_seli [(mf 0), 0, 0, 0, 0, 0, (mf 6), i_1, i_39, (mf 9), (mf 10), (mf 11), (mf 12), (mf 13), (mf 14), (mf 15), (mf 16), 0, (mf 18), 0, 0, 0, (mf 22), 0, 0, (mf 25), (mf 26), 0, 0, (mf 29)]) tf (show 0 ≤ i_1.toInt ∧ i_1.toInt ≤ 900 from ⟨by omega, by omega⟩) (show 0 ≤ i_39.toInt ∧ i_39.toInt ≤ 900 from ⟨by omega, by omega⟩)) (gV mwn_310 mwn_311 mwn_312 mwn_5 mwn_313) hdn_yX8_keyAt rfl rfl ⟨Nat.le_of_ble_eq_true rfl, Nat.le_of_ble_eq_true rfl⟩ hK hN0 hW0 hS (hP.sub [0, 1] rfl) rfl rfl rfl rfl hl.1 rfl (Nat.le_of_ble_eq_true rfl) dX8_nextToken_118 ⟨Nat.le_of_ble_eq_true rfl, Nat.le_of_ble_eq_true rfl⟩ (fun r_45 hr_45 => ?_)
            refine va_put (D := D) (ci := 7) (v := .int r_45) (ty := .int) (C := RX8) (T := TX8) (N := 33) hx hb hts inlX8 tyX8 tyX8_ok nmX8 hown hK hP hD hS 0 rfl rfl 10 (by decide) (hts _ mwn_290) (fun _ h9 => h9) rfl (by decide +kernel) rfl rfl (Nat.le_of_ble_eq_true rfl) dX8_nextToken_121 (fun H locs hP hD hS => ?_)
            replace hP : va_P D vwCl [((mm 0), .inr (7, [.int (mf 0), .ref (mm 1), .ref (mm 2), .ref (mm 3), .ref (mm 4), .ref (mm 5), .int (mf 6), .int i_1, .int i_39, .int (mf 9), .int r_45, .int (mf 11), .int (mf 12), .int (mf 13), .int (mf 14), .int (mf 15), .int (mf 16), .ref (mm 6), .int (mf 18), .ref (mm 7), .ref (mm 8), .ref (mm 9), .int (mf 22), .ref (mm 10), .ref (mm 11), .int (mf 25), .int (mf 26), .ref (mm 12), .ref (mm 13), .int (mf 29), .ref (mm 14), .ref (mm 15), .ref (mm 16)])), ((mm 4), .inl (k 0, 900, .inl tf))] H := hP
            replace hD : va_D A [((mm 0), .inr (7, [.int (mf 0), .ref (mm 1), .ref (mm 2), .ref (mm 3), .ref (mm 4), .ref (mm 5), .int (mf 6), .int i_1, .int i_39, .int (mf 9), .int r_45, .int (mf 11), .int (mf 12), .int (mf 13), .int (mf 14), .int (mf 15), .int (mf 16), .ref (mm 6), .int (mf 18), .ref (mm 7), .ref (mm 8), .ref (mm 9), .int (mf 22), .ref (mm 10), .ref (mm 11), .int (mf 25), .int (mf 26), .ref (mm 12), .ref (mm 13), .int (mf 29), .ref (mm 14), .ref (mm 15), .ref (mm 16)])), ((mm 4), .inl (k 0, 900, .inl tf))] := hD
            refine lv_goto (tgt := 270) hx hb dX8_nextToken_124 (by decide) ?_
            exact W.vret hx hb hr (fun t ht hW => ⟨⟨(i_1, i_39, r_45, (mf 11)), rfl, ⟨(show 0 ≤ i_1.toInt ∧ i_1.toInt ≤ 900 from ⟨by omega, by omega⟩), (show 0 ≤ i_39.toInt ∧ i_39.toInt ≤ 900 from ⟨by omega, by omega⟩), (show i_1.toInt ≤ i_39.toInt from by omega), (show i_39.toInt ≤ (mf 9).toInt from by omega), (show r_45.toInt = 13 ∨ i_1.toInt < i_39.toInt from by omega), (show (mf 8).toInt ≤ i_1.toInt from by omega)⟩, by rw [ht]; exact hP.sub [0, 1] rfl, hD.sub [0, 1] (by decide) rfl⟩, hS.F ht⟩) hS.2.2 dX8_nextToken_270
          · have c_44 : r_43.toInt ≠ 0 := ti_ne c_44
            have qc_44 : r_43 = 1 := ti_of (show r_43.toInt = 1 from by omega)
            refine lv_aload_n hx hb dX8_nextToken_103 rfl (lv_at hl 0 rfl) ?_
            refine lv_dup hx hb dX8_nextToken_104 rfl ?_
            refine va_get (D := D) (ci := 7) (v := .int i_39) (C := RX8) (T := TX8) (N := 33) hx hb hts inlX8 hown hK hP 0 rfl rfl 8 (by decide) (hts _ mwn_288) (fun _ h9 => h9) rfl dX8_nextToken_105 ?_
            refine lv_iconst (v := 1) hx hb dX8_nextToken_108 (by decide) ?_
            refine lv_iadd hx hb dX8_nextToken_109 ?_
            refine lv_topi (fun z_46 ez_46 => ?_)
            have tz_46 : z_46.toInt = i_39.toInt + 1 := by rw [ez_46]; exact ti_addc (by decide) (by omega) (by omega)
            refine va_put (D := D) (ci := 7) (v := .int z_46) (ty := .int) (C := RX8) (T := TX8) (N := 33) hx hb hts inlX8 tyX8 tyX8_ok nmX8 hown hK hP hD hS 0 rfl rfl 8 (by decide) (hts _ mwn_288) (fun _ h9 => h9) rfl (by decide +kernel) rfl rfl (Nat.le_of_ble_eq_true rfl) dX8_nextToken_110 (fun H locs hP hD hS => ?_)
            replace hP : va_P D vwCl [((mm 0), .inr (7, [.int (mf 0), .ref (mm 1), .ref (mm 2), .ref (mm 3), .ref (mm 4), .ref (mm 5), .int (mf 6), .int i_1, .int z_46, .int (mf 9), .int (mf 10), .int (mf 11), .int (mf 12), .int (mf 13), .int (mf 14), .int (mf 15), .int (mf 16), .ref (mm 6), .int (mf 18), .ref (mm 7), .ref (mm 8), .ref (mm 9), .int (mf 22), .ref (mm 10), .ref (mm 11), .int (mf 25), .int (mf 26), .ref (mm 12), .ref (mm 13), .int (mf 29), .ref (mm 14), .ref (mm 15), .ref (mm 16)])), ((mm 4), .inl (k 0, 900, .inl tf))] H := hP
            replace hD : va_D A [((mm 0), .inr (7, [.int (mf 0), .ref (mm 1), .ref (mm 2), .ref (mm 3), .ref (mm 4), .ref (mm 5), .int (mf 6), .int i_1, .int z_46, .int (mf 9), .int (mf 10), .int (mf 11), .int (mf 12), .int (mf 13), .int (mf 14), .int (mf 15), .int (mf 16), .ref (mm 6), .int (mf 18), .ref (mm 7), .ref (mm 8), .ref (mm 9), .int (mf 22), .ref (mm 10), .ref (mm 11), .int (mf 25), .int (mf 26), .ref (mm 12), .ref (mm 13), .int (mf 29), .ref (mm 14), .ref (mm 15), .ref (mm 16)])), ((mm 4), .inl (k 0, 900, .inl tf))] := hD
            refine lv_goto (tgt := 89) hx hb dX8_nextToken_113 (by decide) ?_
            exact ih89 (z_46) _ _ ls (by show ((mf 9).toInt - z_46.toInt).toNat < ((mf 9).toInt - i_39.toInt).toNat; omega) ⟨(show i_1.toInt ≤ z_46.toInt ∧ z_46.toInt ≤ (mf 9).toInt from ⟨by omega, by omega⟩), hP.sub [0, 1] rfl, hD.sub [0, 1] (by decide) rfl, hS, lv_sub hl [0] rfl⟩
      · have c_10 : (mf 9).toInt ≤ i_1.toInt := ti_nlt c_10
        refine lv_aload_n hx hb dX8_nextToken_66 rfl (lv_at hl 0 rfl) ?_
        refine lv_bipush (v := 13) hx hb dX8_nextToken_67 (by decide) ?_
        refine va_put (D := D) (ci := 7) (v := .int 13) (ty := .int) (C := RX8) (T := TX8) (N := 33) hx hb hts inlX8 tyX8 tyX8_ok nmX8 hown hK hP hD hS 0 rfl rfl 10 (by decide) (hts _ mwn_290) (fun _ h9 => h9) rfl (by decide +kernel) rfl rfl (Nat.le_of_ble_eq_true rfl) dX8_nextToken_69 (fun H locs hP hD hS => ?_)
        replace hP : va_P D vwCl [((mm 0), .inr (7, [.int (mf 0), .ref (mm 1), .ref (mm 2), .ref (mm 3), .ref (mm 4), .ref (mm 5), .int (mf 6), .int i_1, .int i_1, .int (mf 9), .int 13, .int (mf 11), .int (mf 12), .int (mf 13), .int (mf 14), .int (mf 15), .int (mf 16), .ref (mm 6), .int (mf 18), .ref (mm 7), .ref (mm 8), .ref (mm 9), .int (mf 22), .ref (mm 10), .ref (mm 11), .int (mf 25), .int (mf 26), .ref (mm 12), .ref (mm 13), .int (mf 29), .ref (mm 14), .ref (mm 15), .ref (mm 16)])), ((mm 4), .inl (k 0, 900, .inl tf))] H := hP
        replace hD : va_D A [((mm 0), .inr (7, [.int (mf 0), .ref (mm 1), .ref (mm 2), .ref (mm 3), .ref (mm 4), .ref (mm 5), .int (mf 6), .int i_1, .int i_1, .int (mf 9), .int 13, .int (mf 11), .int (mf 12), .int (mf 13), .int (mf 14), .int (mf 15), .int (mf 16), .ref (mm 6), .int (mf 18), .ref (mm 7), .ref (mm 8), .ref (mm 9), .int (mf 22), .ref (mm 10), .ref (mm 11), .int (mf 25), .int (mf 26), .ref (mm 12), .ref (mm 13), .int (mf 29), .ref (mm 14), .ref (mm 15), .ref (mm 16)])), ((mm 4), .inl (k 0, 900, .inl tf))] := hD
        refine lv_goto (tgt := 270) hx hb dX8_nextToken_72 (by decide) ?_
        exact W.vret hx hb hr (fun t ht hW => ⟨⟨(i_1, i_1, 13, (mf 11)), rfl, ⟨(show 0 ≤ i_1.toInt ∧ i_1.toInt ≤ 900 from ⟨by omega, by omega⟩), (show 0 ≤ i_1.toInt ∧ i_1.toInt ≤ 900 from ⟨by omega, by omega⟩), (show i_1.toInt ≤ i_1.toInt from by omega), (show i_1.toInt ≤ (mf 9).toInt from by omega), (show 13 = 13 ∨ i_1.toInt < i_1.toInt from by omega), (show (mf 8).toInt ≤ i_1.toInt from by omega)⟩, by rw [ht]; exact hP.sub [0, 1] rfl, hD.sub [0, 1] (by decide) rfl⟩, hS.F ht⟩) hS.2.2 dX8_nextToken_270
    · have c_9 : (SEE tf (mf 9) i_1).toInt = 32 := ti_eq c_9
      have qc_9 : (SEE tf (mf 9) i_1) = 32 := ti_of (show (SEE tf (mf 9) i_1).toInt = 32 from by omega)
      refine lv_aload_n hx hb dX8_nextToken_34 rfl (lv_at hl 0 rfl) ?_
      refine lv_dup hx hb dX8_nextToken_35 rfl ?_
      refine va_get (D := D) (ci := 7) (v := .int i_1) (C := RX8) (T := TX8) (N := 33) hx hb hts inlX8 hown hK hP 0 rfl rfl 7 (by decide) (hts _ mwn_301) (fun _ h9 => h9) rfl dX8_nextToken_36 ?_
      refine lv_iconst (v := 1) hx hb dX8_nextToken_39 (by decide) ?_
      refine lv_iadd hx hb dX8_nextToken_40 ?_
      refine lv_topi (fun z_47 ez_47 => ?_)
      have tz_47 : z_47.toInt = i_1.toInt + 1 := by rw [ez_47]; exact ti_addc (by decide) (by omega) (by omega)
      refine va_put (D := D) (ci := 7) (v := .int z_47) (ty := .int) (C := RX8) (T := TX8) (N := 33) hx hb hts inlX8 tyX8 tyX8_ok nmX8 hown hK hP hD hS 0 rfl rfl 7 (by decide) (hts _ mwn_301) (fun _ h9 => h9) rfl (by decide +kernel) rfl rfl (Nat.le_of_ble_eq_true rfl) dX8_nextToken_41 (fun H locs hP hD hS => ?_)
      replace hP : va_P D vwCl [((mm 0), .inr (7, [.int (mf 0), .ref (mm 1), .ref (mm 2), .ref (mm 3), .ref (mm 4), .ref (mm 5), .int (mf 6), .int z_47, .int (mf 8), .int (mf 9), .int (mf 10), .int (mf 11), .int (mf 12), .int (mf 13), .int (mf 14), .int (mf 15), .int (mf 16), .ref (mm 6), .int (mf 18), .ref (mm 7), .ref (mm 8), .ref (mm 9), .int (mf 22), .ref (mm 10), .ref (mm 11), .int (mf 25), .int (mf 26), .ref (mm 12), .ref (mm 13), .int (mf 29), .ref (mm 14), .ref (mm 15), .ref (mm 16)])), ((mm 4), .inl (k 0, 900, .inl tf))] H := hP
      replace hD : va_D A [((mm 0), .inr (7, [.int (mf 0), .ref (mm 1), .ref (mm 2), .ref (mm 3), .ref (mm 4), .ref (mm 5), .int (mf 6), .int z_47, .int (mf 8), .int (mf 9), .int (mf 10), .int (mf 11), .int (mf 12), .int (mf 13), .int (mf 14), .int (mf 15), .int (mf 16), .ref (mm 6), .int (mf 18), .ref (mm 7), .ref (mm 8), .ref (mm 9), .int (mf 22), .ref (mm 10), .ref (mm 11), .int (mf 25), .int (mf 26), .ref (mm 12), .ref (mm 13), .int (mf 29), .ref (mm 14), .ref (mm 15), .ref (mm 16)])), ((mm 4), .inl (k 0, 900, .inl tf))] := hD
      refine lv_goto (tgt := 8) hx hb dX8_nextToken_44 (by decide) ?_
      exact ih8 (z_47) _ _ ls (by show ((mf 9).toInt - z_47.toInt).toNat < ((mf 9).toInt - i_1.toInt).toNat; omega) ⟨(show (mf 8).toInt ≤ z_47.toInt ∧ z_47.toInt ≤ (mf 9).toInt from ⟨by omega, by omega⟩), hP.sub [0, 1] rfl, hD.sub [0, 1] (by decide) rfl, hS, lv_sub hl [0] rfl⟩
set_option maxHeartbeats 4000000 in
set_option maxRecDepth 100000 in
theorem s_M_fails (l : Launch) (D : va_G) (k : Nat → ClassId) (mm : Nat → Nat) (mf : Nat → Int32) (x : Int32) (sz : Nat) (w_hx : 1 ≤ x.toInt ∧ x.toInt ≤ 4) : Met l yX8_fails (Cond.code yX8_fails cX8_fails 2 none :: wsL_law) ({ frames := 0, cells := 0, slots := 0, locals := 0 } : Room) (va_Pc [.ref (mm 0), .int x] (pu D k sz [((mm 0), .inr (7, [.int (mf 0), .ref (mm 1), .ref (mm 2), .ref (mm 3), .ref (mm 4), .ref (mm 5), .int (mf 6), .int (mf 7), .int (mf 8), .int (mf 9), .int (mf 10), .int (mf 11), .int (mf 12), .int (mf 13), .int (mf 14), .int (mf 15), .int (mf 16), .ref (mm 6), .int (mf 18), .ref (mm 7), .ref (mm 8), .ref (mm 9), .int (mf 22), .ref (mm 10), .ref (mm 11), .int (mf 25), .int (mf 26), .ref (mm 12), .ref (mm 13), .int (mf 29), .ref (mm 14), .ref (mm 15), .ref (mm 16)]))])) (va_Qv (fun uu : Int32 × Int32 => (uu.1.toInt ≠ 0)) (qu D (va_A [((mm 0), .inr (7, [.int (mf 0), .ref (mm 1), .ref (mm 2), .ref (mm 3), .ref (mm 4), .ref (mm 5), .int (mf 6), .int (mf 7), .int (mf 8), .int (mf 9), .int (mf 10), .int (mf 11), .int (mf 12), .int (mf 13), .int (mf 14), .int (mf 15), .int (mf 16), .ref (mm 6), .int (mf 18), .ref (mm 7), .ref (mm 8), .ref (mm 9), .int (mf 22), .ref (mm 10), .ref (mm 11), .int (mf 25), .int (mf 26), .ref (mm 12), .ref (mm 13), .int (mf 29), .ref (mm 14), .ref (mm 15), .ref (mm 16)]))] sz) (fun uu : Int32 × Int32 => [((mm 0), .inr (7, [.int (mf 0), .ref (mm 1), .ref (mm 2), .ref (mm 3), .ref (mm 4), .ref (mm 5), .int (mf 6), .int (mf 7), .int (mf 8), .int (mf 9), .int (mf 10), .int (mf 11), .int uu.1, .int uu.2, .int (mf 14), .int (mf 15), .int (mf 16), .ref (mm 6), .int (mf 18), .ref (mm 7), .ref (mm 8), .ref (mm 9), .int (mf 22), .ref (mm 10), .ref (mm 11), .int (mf 25), .int (mf 26), .ref (mm 12), .ref (mm 13), .int (mf 29), .ref (mm 14), .ref (mm 15), .ref (mm 16)]))])) (va_A [((mm 0), .inr (7, [.int (mf 0), .ref (mm 1), .ref (mm 2), .ref (mm 3), .ref (mm 4), .ref (mm 5), .int (mf 6), .int (mf 7), .int (mf 8), .int (mf 9), .int (mf 10), .int (mf 11), .int (mf 12), .int (mf 13), .int (mf 14), .int (mf 15), .int (mf 16), .ref (mm 6), .int (mf 18), .ref (mm 7), .ref (mm 8), .ref (mm 9), .int (mf 22), .ref (mm 10), .ref (mm 11), .int (mf 25), .int (mf 26), .ref (mm 12), .ref (mm 13), .int (mf 29), .ref (mm 14), .ref (mm 15), .ref (mm 16)]))] sz)) 0 0 (va_A [((mm 0), .inr (7, [.int (mf 0), .ref (mm 1), .ref (mm 2), .ref (mm 3), .ref (mm 4), .ref (mm 5), .int (mf 6), .int (mf 7), .int (mf 8), .int (mf 9), .int (mf 10), .int (mf 11), .int (mf 12), .int (mf 13), .int (mf 14), .int (mf 15), .int (mf 16), .ref (mm 6), .int (mf 18), .ref (mm 7), .ref (mm 8), .ref (mm 9), .int (mf 22), .ref (mm 10), .ref (mm 11), .int (mf 25), .int (mf 26), .ref (mm 12), .ref (mm 13), .int (mf 29), .ref (mm 14), .ref (mm 15), .ref (mm 16)]))] sz) := by
  refine Met.ofW (cc := cX8_fails) (maxL := 2) (ret := none) (by decide) rfl ?_
  intro p e s m args below meth c s₁ B hml hv
  obtain ⟨rfl, hsz, hP, hK, hD0, hN0⟩ := hv
  have hx := B.exec
  have hb := B.bytes
  have hr := B.returns
  have hts : ∀ w ∈ wsL_law, w.before _ s = true := fun w h => atoms_spec (ws := Cond.code yX8_fails cX8_fails 2 none :: wsL_law) B.pre w (List.mem_cons_of_mem _ h)
  have hown : s.vm.findClass RX8 = some m.cls := findClass_of_methodNamed B.named
  have hlocks := B.notSynchronized
  subst hsz
  have hD := hD0.self (sz := s.heap.size)
  generalize hAe : va_A [((mm 0), .inr (7, [.int (mf 0), .ref (mm 1), .ref (mm 2), .ref (mm 3), .ref (mm 4), .ref (mm 5), .int (mf 6), .int (mf 7), .int (mf 8), .int (mf 9), .int (mf 10), .int (mf 11), .int (mf 12), .int (mf 13), .int (mf 14), .int (mf 15), .int (mf 16), .ref (mm 6), .int (mf 18), .ref (mm 7), .ref (mm 8), .ref (mm 9), .int (mf 22), .ref (mm 10), .ref (mm 11), .int (mf 25), .int (mf 26), .ref (mm 12), .ref (mm 13), .int (mf 29), .ref (mm 14), .ref (mm 15), .ref (mm 16)]))] s.heap.size = A at hD ⊢
  have hA : ∀ q : Nat, s.heap.size ≤ q → A q := fun q h => by rw [← hAe]; exact Or.inr h
  have hS : va_S A s.heap s.heap [] := va_S.rf
  replace hP : va_P D vwCl [((mm 0), .inr (7, [.int (mf 0), .ref (mm 1), .ref (mm 2), .ref (mm 3), .ref (mm 4), .ref (mm 5), .int (mf 6), .int (mf 7), .int (mf 8), .int (mf 9), .int (mf 10), .int (mf 11), .int (mf 12), .int (mf 13), .int (mf 14), .int (mf 15), .int (mf 16), .ref (mm 6), .int (mf 18), .ref (mm 7), .ref (mm 8), .ref (mm 9), .int (mf 22), .ref (mm 10), .ref (mm 11), .int (mf 25), .int (mf 26), .ref (mm 12), .ref (mm 13), .int (mf 29), .ref (mm 14), .ref (mm 15), .ref (mm 16)]))] s.heap := hP
  have hl := lv_entry ([.ref (mm 0), .int x]) (n := 2) (Nat.le_of_ble_eq_true rfl)
  rw [lg_entry_eq]
  generalize (lg_sl ([.ref (mm 0), .int x]) ++ List.replicate (2 - (lg_sl ([.ref (mm 0), .int x])).length) Slot.unset).toArray = ls at hl ⊢
  replace hl : lv_has ls 2 [(0, .ref (mm 0)), (1, .int x)] := hl
  refine lv_aload_n hx hb dX8_fails_0 rfl (lv_at hl 0 rfl) ?_
  refine va_get (D := D) (ci := 7) (v := .int (mf 12)) (C := RX8) (T := TX8) (N := 33) hx hb hts inlX8 hown hK hP 0 rfl rfl 12 (by decide) (hts _ mwn_289) (fun _ h9 => h9) rfl dX8_fails_1 ?_
  refine lv_if_eq (tgt := 8) hx hb dX8_fails_4 (by decide) (fun c_1 => ?_) (fun c_1 => ?_)
  · have c_1 : (mf 12).toInt = 0 := ti_eq c_1
    have qc_1 : (mf 12) = 0 := ti_of (show (mf 12).toInt = 0 from by omega)
    refine lv_aload_n hx hb dX8_fails_8 rfl (lv_at hl 0 rfl) ?_
    refine lv_aload_n hx hb dX8_fails_9 rfl (lv_at hl 0 rfl) ?_
    refine va_get (D := D) (ci := 7) (v := .int (mf 10)) (C := RX8) (T := TX8) (N := 33) hx hb hts inlX8 hown hK hP 0 rfl rfl 10 (by decide) (hts _ mwn_290) (fun _ h9 => h9) rfl dX8_fails_10 ?_
    refine lv_bipush (v := 14) hx hb dX8_fails_13 (by decide) ?_
    refine lv_icmp_ne (tgt := 22) hx hb dX8_fails_15 (by decide) (fun c_2 => ?_) (fun c_2 => ?_)
    · have c_2 : (mf 10).toInt ≠ 14 := ti_ne c_2
      refine lv_iload_n hx hb dX8_fails_22 rfl (lv_at hl 1 rfl) ?_
      refine va_put (D := D) (ci := 7) (v := .int x) (ty := .int) (C := RX8) (T := TX8) (N := 33) hx hb hts inlX8 tyX8 tyX8_ok nmX8 hown hK hP hD hS 0 rfl rfl 12 (by decide) (hts _ mwn_289) (fun _ h9 => h9) rfl (by decide +kernel) rfl rfl (Nat.le_of_ble_eq_true rfl) dX8_fails_23 (fun H locs hP hD hS => ?_)
      replace hP : va_P D vwCl [((mm 0), .inr (7, [.int (mf 0), .ref (mm 1), .ref (mm 2), .ref (mm 3), .ref (mm 4), .ref (mm 5), .int (mf 6), .int (mf 7), .int (mf 8), .int (mf 9), .int (mf 10), .int (mf 11), .int x, .int (mf 13), .int (mf 14), .int (mf 15), .int (mf 16), .ref (mm 6), .int (mf 18), .ref (mm 7), .ref (mm 8), .ref (mm 9), .int (mf 22), .ref (mm 10), .ref (mm 11), .int (mf 25), .int (mf 26), .ref (mm 12), .ref (mm 13), .int (mf 29), .ref (mm 14), .ref (mm 15), .ref (mm 16)]))] H := hP
      replace hD : va_D A [((mm 0), .inr (7, [.int (mf 0), .ref (mm 1), .ref (mm 2), .ref (mm 3), .ref (mm 4), .ref (mm 5), .int (mf 6), .int (mf 7), .int (mf 8), .int (mf 9), .int (mf 10), .int (mf 11), .int x, .int (mf 13), .int (mf 14), .int (mf 15), .int (mf 16), .ref (mm 6), .int (mf 18), .ref (mm 7), .ref (mm 8), .ref (mm 9), .int (mf 22), .ref (mm 10), .ref (mm 11), .int (mf 25), .int (mf 26), .ref (mm 12), .ref (mm 13), .int (mf 29), .ref (mm 14), .ref (mm 15), .ref (mm 16)]))] := hD
      refine lv_aload_n hx hb dX8_fails_26 rfl (lv_at hl 0 rfl) ?_
      refine lv_aload_n hx hb dX8_fails_27 rfl (lv_at hl 0 rfl) ?_
      refine va_get (D := D) (ci := 7) (v := .int (mf 7)) (C := RX8) (T := TX8) (N := 33) hx hb hts inlX8 hown hK hP 0 rfl rfl 7 (by decide) (hts _ mwn_301) (fun _ h9 => h9) rfl dX8_fails_28 ?_
      refine va_put (D := D) (ci := 7) (v := .int (mf 7)) (ty := .int) (C := RX8) (T := TX8) (N := 33) hx hb hts inlX8 tyX8 tyX8_ok nmX8 hown hK hP hD hS 0 rfl rfl 13 (by decide) (hts _ mwn_292) (fun _ h9 => h9) rfl (by decide +kernel) rfl rfl (Nat.le_of_ble_eq_true rfl) dX8_fails_31 (fun H locs hP hD hS => ?_)
      replace hP : va_P D vwCl [((mm 0), .inr (7, [.int (mf 0), .ref (mm 1), .ref (mm 2), .ref (mm 3), .ref (mm 4), .ref (mm 5), .int (mf 6), .int (mf 7), .int (mf 8), .int (mf 9), .int (mf 10), .int (mf 11), .int x, .int (mf 7), .int (mf 14), .int (mf 15), .int (mf 16), .ref (mm 6), .int (mf 18), .ref (mm 7), .ref (mm 8), .ref (mm 9), .int (mf 22), .ref (mm 10), .ref (mm 11), .int (mf 25), .int (mf 26), .ref (mm 12), .ref (mm 13), .int (mf 29), .ref (mm 14), .ref (mm 15), .ref (mm 16)]))] H := hP
      replace hD : va_D A [((mm 0), .inr (7, [.int (mf 0), .ref (mm 1), .ref (mm 2), .ref (mm 3), .ref (mm 4), .ref (mm 5), .int (mf 6), .int (mf 7), .int (mf 8), .int (mf 9), .int (mf 10), .int (mf 11), .int x, .int (mf 7), .int (mf 14), .int (mf 15), .int (mf 16), .ref (mm 6), .int (mf 18), .ref (mm 7), .ref (mm 8), .ref (mm 9), .int (mf 22), .ref (mm 10), .ref (mm 11), .int (mf 25), .int (mf 26), .ref (mm 12), .ref (mm 13), .int (mf 29), .ref (mm 14), .ref (mm 15), .ref (mm 16)]))] := hD
      exact W.vret hx hb hr (fun t ht hW => ⟨⟨(x, (mf 7)), rfl, (show x.toInt ≠ 0 from by omega), by rw [ht]; exact hP.sub [0] rfl, hD.sub [0] (by decide) rfl⟩, hS.F ht⟩) hS.2.2 dX8_fails_34
    · have c_2 : (mf 10).toInt = 14 := ti_eq c_2
      have qc_2 : (mf 10) = 14 := ti_of (show (mf 10).toInt = 14 from by omega)
      refine lv_iconst (v := 1) hx hb dX8_fails_18 (by decide) ?_
      refine lv_goto (tgt := 23) hx hb dX8_fails_19 (by decide) ?_
      refine va_put (D := D) (ci := 7) (v := .int 1) (ty := .int) (C := RX8) (T := TX8) (N := 33) hx hb hts inlX8 tyX8 tyX8_ok nmX8 hown hK hP hD hS 0 rfl rfl 12 (by decide) (hts _ mwn_289) (fun _ h9 => h9) rfl (by decide +kernel) rfl rfl (Nat.le_of_ble_eq_true rfl) dX8_fails_23 (fun H locs hP hD hS => ?_)
      replace hP : va_P D vwCl [((mm 0), .inr (7, [.int (mf 0), .ref (mm 1), .ref (mm 2), .ref (mm 3), .ref (mm 4), .ref (mm 5), .int (mf 6), .int (mf 7), .int (mf 8), .int (mf 9), .int (mf 10), .int (mf 11), .int 1, .int (mf 13), .int (mf 14), .int (mf 15), .int (mf 16), .ref (mm 6), .int (mf 18), .ref (mm 7), .ref (mm 8), .ref (mm 9), .int (mf 22), .ref (mm 10), .ref (mm 11), .int (mf 25), .int (mf 26), .ref (mm 12), .ref (mm 13), .int (mf 29), .ref (mm 14), .ref (mm 15), .ref (mm 16)]))] H := hP
      replace hD : va_D A [((mm 0), .inr (7, [.int (mf 0), .ref (mm 1), .ref (mm 2), .ref (mm 3), .ref (mm 4), .ref (mm 5), .int (mf 6), .int (mf 7), .int (mf 8), .int (mf 9), .int (mf 10), .int (mf 11), .int 1, .int (mf 13), .int (mf 14), .int (mf 15), .int (mf 16), .ref (mm 6), .int (mf 18), .ref (mm 7), .ref (mm 8), .ref (mm 9), .int (mf 22), .ref (mm 10), .ref (mm 11), .int (mf 25), .int (mf 26), .ref (mm 12), .ref (mm 13), .int (mf 29), .ref (mm 14), .ref (mm 15), .ref (mm 16)]))] := hD
      refine lv_aload_n hx hb dX8_fails_26 rfl (lv_at hl 0 rfl) ?_
      refine lv_aload_n hx hb dX8_fails_27 rfl (lv_at hl 0 rfl) ?_
      refine va_get (D := D) (ci := 7) (v := .int (mf 7)) (C := RX8) (T := TX8) (N := 33) hx hb hts inlX8 hown hK hP 0 rfl rfl 7 (by decide) (hts _ mwn_301) (fun _ h9 => h9) rfl dX8_fails_28 ?_
      refine va_put (D := D) (ci := 7) (v := .int (mf 7)) (ty := .int) (C := RX8) (T := TX8) (N := 33) hx hb hts inlX8 tyX8 tyX8_ok nmX8 hown hK hP hD hS 0 rfl rfl 13 (by decide) (hts _ mwn_292) (fun _ h9 => h9) rfl (by decide +kernel) rfl rfl (Nat.le_of_ble_eq_true rfl) dX8_fails_31 (fun H locs hP hD hS => ?_)
      replace hP : va_P D vwCl [((mm 0), .inr (7, [.int (mf 0), .ref (mm 1), .ref (mm 2), .ref (mm 3), .ref (mm 4), .ref (mm 5), .int (mf 6), .int (mf 7), .int (mf 8), .int (mf 9), .int (mf 10), .int (mf 11), .int 1, .int (mf 7), .int (mf 14), .int (mf 15), .int (mf 16), .ref (mm 6), .int (mf 18), .ref (mm 7), .ref (mm 8), .ref (mm 9), .int (mf 22), .ref (mm 10), .ref (mm 11), .int (mf 25), .int (mf 26), .ref (mm 12), .ref (mm 13), .int (mf 29), .ref (mm 14), .ref (mm 15), .ref (mm 16)]))] H := hP
      replace hD : va_D A [((mm 0), .inr (7, [.int (mf 0), .ref (mm 1), .ref (mm 2), .ref (mm 3), .ref (mm 4), .ref (mm 5), .int (mf 6), .int (mf 7), .int (mf 8), .int (mf 9), .int (mf 10), .int (mf 11), .int 1, .int (mf 7), .int (mf 14), .int (mf 15), .int (mf 16), .ref (mm 6), .int (mf 18), .ref (mm 7), .ref (mm 8), .ref (mm 9), .int (mf 22), .ref (mm 10), .ref (mm 11), .int (mf 25), .int (mf 26), .ref (mm 12), .ref (mm 13), .int (mf 29), .ref (mm 14), .ref (mm 15), .ref (mm 16)]))] := hD
      exact W.vret hx hb hr (fun t ht hW => ⟨⟨(1, (mf 7)), rfl, (show 1 ≠ 0 from by decide), by rw [ht]; exact hP.sub [0] rfl, hD.sub [0] (by decide) rfl⟩, hS.F ht⟩) hS.2.2 dX8_fails_34
  · have c_1 : (mf 12).toInt ≠ 0 := ti_ne c_1
    exact W.vret hx hb hr (fun t ht hW => ⟨⟨((mf 12), (mf 13)), rfl, (show (mf 12).toInt ≠ 0 from by omega), by rw [ht]; exact hP.sub [0] rfl, hD.sub [0] (by decide) rfl⟩, hS.F ht⟩) hS.2.2 dX8_fails_7
set_option maxHeartbeats 4000000 in
set_option maxRecDepth 100000 in
theorem s_M_is (l : Launch) (D : va_G) (k : Nat → ClassId) (mm : Nat → Nat) (mf : Nat → Int32) (x : Int32) : Met l yX8_is (Cond.code yX8_is cX8_is 2 (some .boolean) :: wsL_law) ({ frames := 0, cells := 0, slots := 0, locals := 0 } : Room) (va_Pc [.ref (mm 0), .int x] (pr D k [((mm 0), .inr (7, [.int (mf 0), .ref (mm 1), .ref (mm 2), .ref (mm 3), .ref (mm 4), .ref (mm 5), .int (mf 6), .int (mf 7), .int (mf 8), .int (mf 9), .int (mf 10), .int (mf 11), .int (mf 12), .int (mf 13), .int (mf 14), .int (mf 15), .int (mf 16), .ref (mm 6), .int (mf 18), .ref (mm 7), .ref (mm 8), .ref (mm 9), .int (mf 22), .ref (mm 10), .ref (mm 11), .int (mf 25), .int (mf 26), .ref (mm 12), .ref (mm 13), .int (mf 29), .ref (mm 14), .ref (mm 15), .ref (mm 16)]))])) (vp_Si (fun rr => rr.toInt = 0 ∨ (rr.toInt = 1 ∧ (mf 12).toInt = 0 ∧ (mf 10).toInt = x.toInt))) 0 0 (fun _ => False) := by
  refine Met.ofW (cc := cX8_is) (maxL := 2) (ret := (some .boolean)) (by decide) rfl ?_
  intro p e s m args below meth c s₁ B hml hv
  obtain ⟨rfl, hP, hK, hN0⟩ := hv
  have hx := B.exec
  have hb := B.bytes
  have hr := B.returns
  have hts : ∀ w ∈ wsL_law, w.before _ s = true := fun w h => atoms_spec (ws := Cond.code yX8_is cX8_is 2 (some .boolean) :: wsL_law) B.pre w (List.mem_cons_of_mem _ h)
  have hown : s.vm.findClass RX8 = some m.cls := findClass_of_methodNamed B.named
  have hlocks := B.notSynchronized
  replace hP : va_P D vwCl [((mm 0), .inr (7, [.int (mf 0), .ref (mm 1), .ref (mm 2), .ref (mm 3), .ref (mm 4), .ref (mm 5), .int (mf 6), .int (mf 7), .int (mf 8), .int (mf 9), .int (mf 10), .int (mf 11), .int (mf 12), .int (mf 13), .int (mf 14), .int (mf 15), .int (mf 16), .ref (mm 6), .int (mf 18), .ref (mm 7), .ref (mm 8), .ref (mm 9), .int (mf 22), .ref (mm 10), .ref (mm 11), .int (mf 25), .int (mf 26), .ref (mm 12), .ref (mm 13), .int (mf 29), .ref (mm 14), .ref (mm 15), .ref (mm 16)]))] s.heap := hP
  have hl := lv_entry ([.ref (mm 0), .int x]) (n := 2) (Nat.le_of_ble_eq_true rfl)
  rw [lg_entry_eq]
  generalize (lg_sl ([.ref (mm 0), .int x]) ++ List.replicate (2 - (lg_sl ([.ref (mm 0), .int x])).length) Slot.unset).toArray = ls at hl ⊢
  replace hl : lv_has ls 2 [(0, .ref (mm 0)), (1, .int x)] := hl
  refine lv_aload_n hx hb dX8_is_0 rfl (lv_at hl 0 rfl) ?_
  refine va_get (D := D) (ci := 7) (v := .int (mf 12)) (C := RX8) (T := TX8) (N := 33) hx hb hts inlX8 hown hK hP 0 rfl rfl 12 (by decide) (hts _ mwn_289) (fun _ h9 => h9) rfl dX8_is_1 ?_
  refine lv_if_ne (tgt := 19) hx hb dX8_is_4 (by decide) (fun c_1 => ?_) (fun c_1 => ?_)
  · have c_1 : (mf 12).toInt ≠ 0 := ti_ne c_1
    refine lv_iconst (v := 0) hx hb dX8_is_19 (by decide) ?_
    exact W.zret (v := 0) hx hb hr rfl (fun t ht hW => ⟨0, rfl, (show 0 = 0 ∨ (0 = 1 ∧ (mf 12).toInt = 0 ∧ (mf 10).toInt = x.toInt) from by omega), ht⟩) (fun q h => by cases h) dX8_is_20
  · have c_1 : (mf 12).toInt = 0 := ti_eq c_1
    have qc_1 : (mf 12) = 0 := ti_of (show (mf 12).toInt = 0 from by omega)
    refine lv_aload_n hx hb dX8_is_7 rfl (lv_at hl 0 rfl) ?_
    refine va_get (D := D) (ci := 7) (v := .int (mf 10)) (C := RX8) (T := TX8) (N := 33) hx hb hts inlX8 hown hK hP 0 rfl rfl 10 (by decide) (hts _ mwn_290) (fun _ h9 => h9) rfl dX8_is_8 ?_
    refine lv_iload_n hx hb dX8_is_11 rfl (lv_at hl 1 rfl) ?_
    refine lv_icmp_ne (tgt := 19) hx hb dX8_is_12 (by decide) (fun c_2 => ?_) (fun c_2 => ?_)
    · have c_2 : (mf 10).toInt ≠ x.toInt := ti_ne c_2
      refine lv_iconst (v := 0) hx hb dX8_is_19 (by decide) ?_
      exact W.zret (v := 0) hx hb hr rfl (fun t ht hW => ⟨0, rfl, (show 0 = 0 ∨ (0 = 1 ∧ (mf 12).toInt = 0 ∧ (mf 10).toInt = x.toInt) from by omega), ht⟩) (fun q h => by cases h) dX8_is_20
    · have c_2 : (mf 10).toInt = x.toInt := ti_eq c_2
      refine lv_iconst (v := 1) hx hb dX8_is_15 (by decide) ?_
      refine lv_goto (tgt := 20) hx hb dX8_is_16 (by decide) ?_
      exact W.zret (v := 1) hx hb hr rfl (fun t ht hW => ⟨1, rfl, (show 1 = 0 ∨ (1 = 1 ∧ (mf 12).toInt = 0 ∧ (mf 10).toInt = x.toInt) from by omega), ht⟩) (fun q h => by cases h) dX8_is_20
set_option maxHeartbeats 4000000 in
set_option maxRecDepth 100000 in
theorem s_M_eats (l : Launch) (D : va_G) (k : Nat → ClassId) (ak : Nat → Nat) (av : Nat → Nat) (mm : Nat → Nat) (mf : Nat → Int32) (tf : Nat → Int32) (x : Int32) (sz : Nat) (w_t7 : 0 ≤ (mf 7).toInt ∧ (mf 7).toInt ≤ 900) (w_t8 : 0 ≤ (mf 8).toInt ∧ (mf 8).toInt ≤ 900) (w_t9 : 0 ≤ (mf 9).toInt ∧ (mf 9).toInt ≤ 900) (w_ta : (mf 7).toInt ≤ (mf 8).toInt) (w_tb : (mf 8).toInt ≤ (mf 9).toInt) (w_tc : (mf 10).toInt = 13 ∨ (mf 7).toInt < (mf 8).toInt) : Met l yX8_eats (Cond.code yX8_eats cX8_eats 2 (some .boolean) :: wsL_law) ({ frames := 6, cells := 0, slots := 0, locals := 360 } : Room) (va_Pc [.ref (mm 0), .int x] (pus ak av D k sz [((mm 0), .inr (7, [.int (mf 0), .ref (mm 1), .ref (mm 2), .ref (mm 3), .ref (mm 4), .ref (mm 5), .int (mf 6), .int (mf 7), .int (mf 8), .int (mf 9), .int (mf 10), .int (mf 11), .int (mf 12), .int (mf 13), .int (mf 14), .int (mf 15), .int (mf 16), .ref (mm 6), .int (mf 18), .ref (mm 7), .ref (mm 8), .ref (mm 9), .int (mf 22), .ref (mm 10), .ref (mm 11), .int (mf 25), .int (mf 26), .ref (mm 12), .ref (mm 13), .int (mf 29), .ref (mm 14), .ref (mm 15), .ref (mm 16)])), ((mm 4), .inl (k 0, 900, .inl tf))])) (va_Qi (fun rr (uu : Int32 × Int32 × Int32 × Int32) => (rr.toInt = 0 ∨ (rr.toInt = 1 ∧ (mf 12).toInt = 0 ∧ (mf 10).toInt = x.toInt ∧ (mf 8).toInt ≤ uu.1.toInt)) ∧ (0 ≤ uu.1.toInt ∧ uu.1.toInt ≤ 900) ∧ (0 ≤ uu.2.1.toInt ∧ uu.2.1.toInt ≤ 900) ∧ (uu.1.toInt ≤ uu.2.1.toInt) ∧ (uu.2.1.toInt ≤ (mf 9).toInt) ∧ (uu.2.2.1.toInt = 13 ∨ uu.1.toInt < uu.2.1.toInt) ∧ ((mf 7).toInt ≤ uu.1.toInt)) (qu D (va_A [((mm 0), .inr (7, [.int (mf 0), .ref (mm 1), .ref (mm 2), .ref (mm 3), .ref (mm 4), .ref (mm 5), .int (mf 6), .int (mf 7), .int (mf 8), .int (mf 9), .int (mf 10), .int (mf 11), .int (mf 12), .int (mf 13), .int (mf 14), .int (mf 15), .int (mf 16), .ref (mm 6), .int (mf 18), .ref (mm 7), .ref (mm 8), .ref (mm 9), .int (mf 22), .ref (mm 10), .ref (mm 11), .int (mf 25), .int (mf 26), .ref (mm 12), .ref (mm 13), .int (mf 29), .ref (mm 14), .ref (mm 15), .ref (mm 16)])), ((mm 4), .inl (k 0, 900, .inl tf))] sz) (fun uu : Int32 × Int32 × Int32 × Int32 => [((mm 0), .inr (7, [.int (mf 0), .ref (mm 1), .ref (mm 2), .ref (mm 3), .ref (mm 4), .ref (mm 5), .int (mf 6), .int uu.1, .int uu.2.1, .int (mf 9), .int uu.2.2.1, .int uu.2.2.2, .int (mf 12), .int (mf 13), .int (mf 14), .int (mf 15), .int (mf 16), .ref (mm 6), .int (mf 18), .ref (mm 7), .ref (mm 8), .ref (mm 9), .int (mf 22), .ref (mm 10), .ref (mm 11), .int (mf 25), .int (mf 26), .ref (mm 12), .ref (mm 13), .int (mf 29), .ref (mm 14), .ref (mm 15), .ref (mm 16)])), ((mm 4), .inl (k 0, 900, .inl tf))])) (va_A [((mm 0), .inr (7, [.int (mf 0), .ref (mm 1), .ref (mm 2), .ref (mm 3), .ref (mm 4), .ref (mm 5), .int (mf 6), .int (mf 7), .int (mf 8), .int (mf 9), .int (mf 10), .int (mf 11), .int (mf 12), .int (mf 13), .int (mf 14), .int (mf 15), .int (mf 16), .ref (mm 6), .int (mf 18), .ref (mm 7), .ref (mm 8), .ref (mm 9), .int (mf 22), .ref (mm 10), .ref (mm 11), .int (mf 25), .int (mf 26), .ref (mm 12), .ref (mm 13), .int (mf 29), .ref (mm 14), .ref (mm 15), .ref (mm 16)])), ((mm 4), .inl (k 0, 900, .inl tf))] sz)) 0 0 (va_A [((mm 0), .inr (7, [.int (mf 0), .ref (mm 1), .ref (mm 2), .ref (mm 3), .ref (mm 4), .ref (mm 5), .int (mf 6), .int (mf 7), .int (mf 8), .int (mf 9), .int (mf 10), .int (mf 11), .int (mf 12), .int (mf 13), .int (mf 14), .int (mf 15), .int (mf 16), .ref (mm 6), .int (mf 18), .ref (mm 7), .ref (mm 8), .ref (mm 9), .int (mf 22), .ref (mm 10), .ref (mm 11), .int (mf 25), .int (mf 26), .ref (mm 12), .ref (mm 13), .int (mf 29), .ref (mm 14), .ref (mm 15), .ref (mm 16)])), ((mm 4), .inl (k 0, 900, .inl tf))] sz) := by
  refine Met.ofW (cc := cX8_eats) (maxL := 2) (ret := (some .boolean)) (by decide) rfl ?_
  intro p e s m args below meth c s₁ B hml hv
  obtain ⟨rfl, hsz, hP, hK, hD0, hN0, hW0⟩ := hv
  have hx := B.exec
  have hb := B.bytes
  have hr := B.returns
  have hts : ∀ w ∈ wsL_law, w.before _ s = true := fun w h => atoms_spec (ws := Cond.code yX8_eats cX8_eats 2 (some .boolean) :: wsL_law) B.pre w (List.mem_cons_of_mem _ h)
  have hown : s.vm.findClass RX8 = some m.cls := findClass_of_methodNamed B.named
  have hlocks := B.notSynchronized
  subst hsz
  have hD := hD0.self (sz := s.heap.size)
  generalize hAe : va_A [((mm 0), .inr (7, [.int (mf 0), .ref (mm 1), .ref (mm 2), .ref (mm 3), .ref (mm 4), .ref (mm 5), .int (mf 6), .int (mf 7), .int (mf 8), .int (mf 9), .int (mf 10), .int (mf 11), .int (mf 12), .int (mf 13), .int (mf 14), .int (mf 15), .int (mf 16), .ref (mm 6), .int (mf 18), .ref (mm 7), .ref (mm 8), .ref (mm 9), .int (mf 22), .ref (mm 10), .ref (mm 11), .int (mf 25), .int (mf 26), .ref (mm 12), .ref (mm 13), .int (mf 29), .ref (mm 14), .ref (mm 15), .ref (mm 16)])), ((mm 4), .inl (k 0, 900, .inl tf))] s.heap.size = A at hD hW0 ⊢
  have hA : ∀ q : Nat, s.heap.size ≤ q → A q := fun q h => by rw [← hAe]; exact Or.inr h
  have hS : va_S A s.heap s.heap [] := va_S.rf
  replace hP : va_P D vwCl [((mm 0), .inr (7, [.int (mf 0), .ref (mm 1), .ref (mm 2), .ref (mm 3), .ref (mm 4), .ref (mm 5), .int (mf 6), .int (mf 7), .int (mf 8), .int (mf 9), .int (mf 10), .int (mf 11), .int (mf 12), .int (mf 13), .int (mf 14), .int (mf 15), .int (mf 16), .ref (mm 6), .int (mf 18), .ref (mm 7), .ref (mm 8), .ref (mm 9), .int (mf 22), .ref (mm 10), .ref (mm 11), .int (mf 25), .int (mf 26), .ref (mm 12), .ref (mm 13), .int (mf 29), .ref (mm 14), .ref (mm 15), .ref (mm 16)])), ((mm 4), .inl (k 0, 900, .inl tf))] s.heap := hP
  have hl := lv_entry ([.ref (mm 0), .int x]) (n := 2) (Nat.le_of_ble_eq_true rfl)
  rw [lg_entry_eq]
  generalize (lg_sl ([.ref (mm 0), .int x]) ++ List.replicate (2 - (lg_sl ([.ref (mm 0), .int x])).length) Slot.unset).toArray = ls at hl ⊢
  replace hl : lv_has ls 2 [(0, .ref (mm 0)), (1, .int x)] := hl
  refine lv_aload_n hx hb dX8_eats_0 rfl (lv_at hl 0 rfl) ?_
  refine lv_iload_n hx hb dX8_eats_1 rfl (lv_at hl 1 rfl) ?_
  refine kV_i (q0 := 0) (As := [.int x]) (rest := []) ⟨hx, hb, hml, hown, hts⟩ (s_M_is l D k _ mf x) (gV mwn_323 mwn_324 mwn_325 mwn_5 mwn_326) hdn_yX8_is rfl rfl ⟨Nat.le_of_ble_eq_true rfl, Nat.le_of_ble_eq_true rfl⟩ hK hN0 (hP.sub [0] rfl) rfl rfl rfl rfl hl.1 rfl (Nat.le_of_ble_eq_true rfl) dX8_eats_2 ⟨Nat.le_of_ble_eq_true rfl, Nat.le_of_ble_eq_true rfl⟩ (fun r_1 hr_1 => ?_)
  replace hr_1 : r_1.toInt = 0 ∨ (r_1.toInt = 1 ∧ (mf 12).toInt = 0 ∧ (mf 10).toInt = x.toInt) := hr_1
  refine lv_if_ne (tgt := 10) hx hb dX8_eats_5 (by decide) (fun c_2 => ?_) (fun c_2 => ?_)
  · have c_2 : r_1.toInt ≠ 0 := ti_ne c_2
    have qc_2 : r_1 = 1 := ti_of (show r_1.toInt = 1 from by omega)
    refine lv_aload_n hx hb dX8_eats_10 rfl (lv_at hl 0 rfl) ?_
    refine kV_uvs (q0 := 0) (As := []) (rest := []) (wr := []) ⟨hx, hb, hml, hown, hts⟩ (s_M_nextToken l D k ak av _ mf tf _ (show 0 ≤ (mf 8).toInt ∧ (mf 8).toInt ≤ 900 from ⟨by omega, by omega⟩) (show 0 ≤ (mf 9).toInt ∧ (mf 9).toInt ≤ 900 from ⟨by omega, by omega⟩) (show (mf 8).toInt ≤ (mf 9).toInt from by omega)) (gV mwn_297 mwn_298 mwn_299 mwn_5 mwn_300) hdn_yX8_nextToken rfl rfl ⟨Nat.le_of_ble_eq_true rfl, Nat.le_of_ble_eq_true rfl⟩ hK hN0 hW0 hS hP hD hS hA [0, 1] [] rfl rfl (by decide) (by decide) (by decide) rfl rfl rfl rfl hl.1 rfl (Nat.le_of_ble_eq_true rfl) dX8_eats_11 ⟨Nat.le_of_ble_eq_true rfl, Nat.le_of_ble_eq_true rfl⟩ (fun u_4 H locs hw hP hD hS => ?_)
    obtain ⟨v_5, v_6, v_7, v_8⟩ := u_4
    obtain ⟨h_9, h_10, h_11, h_12, h_13, h_14⟩ := hw
    replace h_9 : 0 ≤ v_5.toInt ∧ v_5.toInt ≤ 900 := h_9
    replace h_10 : 0 ≤ v_6.toInt ∧ v_6.toInt ≤ 900 := h_10
    replace h_11 : v_5.toInt ≤ v_6.toInt := h_11
    replace h_12 : v_6.toInt ≤ (mf 9).toInt := h_12
    replace h_13 : v_7.toInt = 13 ∨ v_5.toInt < v_6.toInt := h_13
    replace h_14 : (mf 8).toInt ≤ v_5.toInt := h_14
    replace hP : va_P D vwCl [((mm 0), .inr (7, [.int (mf 0), .ref (mm 1), .ref (mm 2), .ref (mm 3), .ref (mm 4), .ref (mm 5), .int (mf 6), .int v_5, .int v_6, .int (mf 9), .int v_7, .int v_8, .int (mf 12), .int (mf 13), .int (mf 14), .int (mf 15), .int (mf 16), .ref (mm 6), .int (mf 18), .ref (mm 7), .ref (mm 8), .ref (mm 9), .int (mf 22), .ref (mm 10), .ref (mm 11), .int (mf 25), .int (mf 26), .ref (mm 12), .ref (mm 13), .int (mf 29), .ref (mm 14), .ref (mm 15), .ref (mm 16)])), ((mm 4), .inl (k 0, 900, .inl tf))] H := hP
    replace hD : va_D A [((mm 0), .inr (7, [.int (mf 0), .ref (mm 1), .ref (mm 2), .ref (mm 3), .ref (mm 4), .ref (mm 5), .int (mf 6), .int v_5, .int v_6, .int (mf 9), .int v_7, .int v_8, .int (mf 12), .int (mf 13), .int (mf 14), .int (mf 15), .int (mf 16), .ref (mm 6), .int (mf 18), .ref (mm 7), .ref (mm 8), .ref (mm 9), .int (mf 22), .ref (mm 10), .ref (mm 11), .int (mf 25), .int (mf 26), .ref (mm 12), .ref (mm 13), .int (mf 29), .ref (mm 14), .ref (mm 15), .ref (mm 16)])), ((mm 4), .inl (k 0, 900, .inl tf))] := hD
    refine lv_iconst (v := 1) hx hb dX8_eats_14 (by decide) ?_
    exact W.zret (v := 1) hx hb hr rfl (fun t ht hW => ⟨⟨1, (v_5, v_6, v_7, v_8), rfl, ⟨(show 1 = 0 ∨ (1 = 1 ∧ (mf 12).toInt = 0 ∧ (mf 10).toInt = x.toInt ∧ (mf 8).toInt ≤ v_5.toInt) from by omega), (show 0 ≤ v_5.toInt ∧ v_5.toInt ≤ 900 from ⟨by omega, by omega⟩), (show 0 ≤ v_6.toInt ∧ v_6.toInt ≤ 900 from ⟨by omega, by omega⟩), (show v_5.toInt ≤ v_6.toInt from by omega), (show v_6.toInt ≤ (mf 9).toInt from by omega), (show v_7.toInt = 13 ∨ v_5.toInt < v_6.toInt from by omega), (show (mf 7).toInt ≤ v_5.toInt from by omega)⟩, by rw [ht]; exact hP.sub [0, 1] rfl, hD.sub [0, 1] (by decide) rfl⟩, hS.F ht⟩) hS.2.2 dX8_eats_15
  · have c_2 : r_1.toInt = 0 := ti_eq c_2
    have qc_2 : r_1 = 0 := ti_of (show r_1.toInt = 0 from by omega)
    refine lv_iconst (v := 0) hx hb dX8_eats_8 (by decide) ?_
    exact W.zret (v := 0) hx hb hr rfl (fun t ht hW => ⟨⟨0, ((mf 7), (mf 8), (mf 10), (mf 11)), rfl, ⟨(show 0 = 0 ∨ (0 = 1 ∧ (mf 12).toInt = 0 ∧ (mf 10).toInt = x.toInt ∧ (mf 8).toInt ≤ (mf 7).toInt) from by omega), (show 0 ≤ (mf 7).toInt ∧ (mf 7).toInt ≤ 900 from ⟨by omega, by omega⟩), (show 0 ≤ (mf 8).toInt ∧ (mf 8).toInt ≤ 900 from ⟨by omega, by omega⟩), (show (mf 7).toInt ≤ (mf 8).toInt from by omega), (show (mf 8).toInt ≤ (mf 9).toInt from by omega), (show (mf 10).toInt = 13 ∨ (mf 7).toInt < (mf 8).toInt from by omega), (show (mf 7).toInt ≤ (mf 7).toInt from by omega)⟩, by rw [ht]; exact hP.sub [0, 1] rfl, hD.sub [0, 1] (by decide) rfl⟩, hS.F ht⟩) hS.2.2 dX8_eats_9
set_option maxHeartbeats 4000000 in
set_option maxRecDepth 100000 in
theorem s_M_takes (l : Launch) (D : va_G) (k : Nat → ClassId) (ak : Nat → Nat) (av : Nat → Nat) (mm : Nat → Nat) (mf : Nat → Int32) (tf : Nat → Int32) (x : Int32) (z : Int32) (sz : Nat) (w_t7 : 0 ≤ (mf 7).toInt ∧ (mf 7).toInt ≤ 900) (w_t8 : 0 ≤ (mf 8).toInt ∧ (mf 8).toInt ≤ 900) (w_t9 : 0 ≤ (mf 9).toInt ∧ (mf 9).toInt ≤ 900) (w_ta : (mf 7).toInt ≤ (mf 8).toInt) (w_tb : (mf 8).toInt ≤ (mf 9).toInt) (w_tc : (mf 10).toInt = 13 ∨ (mf 7).toInt < (mf 8).toInt) : Met l yX8_takes (Cond.code yX8_takes cX8_takes 4 (some .int) :: wsL_law) ({ frames := 6, cells := 0, slots := 0, locals := 360 } : Room) (va_Pc [.ref (mm 0), .int x, .int z] (pus ak av D k sz [((mm 0), .inr (7, [.int (mf 0), .ref (mm 1), .ref (mm 2), .ref (mm 3), .ref (mm 4), .ref (mm 5), .int (mf 6), .int (mf 7), .int (mf 8), .int (mf 9), .int (mf 10), .int (mf 11), .int (mf 12), .int (mf 13), .int (mf 14), .int (mf 15), .int (mf 16), .ref (mm 6), .int (mf 18), .ref (mm 7), .ref (mm 8), .ref (mm 9), .int (mf 22), .ref (mm 10), .ref (mm 11), .int (mf 25), .int (mf 26), .ref (mm 12), .ref (mm 13), .int (mf 29), .ref (mm 14), .ref (mm 15), .ref (mm 16)])), ((mm 4), .inl (k 0, 900, .inl tf))])) (va_Qi (fun rr (uu : Int32 × Int32 × Int32 × Int32 × Int32 × Int32) => (uu.2.2.2.2.1.toInt ≠ 0 ∨ (x.toInt ≤ rr.toInt ∧ rr.toInt ≤ z.toInt)) ∧ (0 ≤ uu.1.toInt ∧ uu.1.toInt ≤ 900) ∧ (0 ≤ uu.2.1.toInt ∧ uu.2.1.toInt ≤ 900) ∧ (uu.1.toInt ≤ uu.2.1.toInt) ∧ (uu.2.1.toInt ≤ (mf 9).toInt) ∧ (uu.2.2.1.toInt = 13 ∨ uu.1.toInt < uu.2.1.toInt) ∧ ((mf 7).toInt ≤ uu.1.toInt) ∧ (uu.2.2.2.2.1.toInt ≠ 0 ∨ (mf 12).toInt = 0)) (qu D (va_A [((mm 0), .inr (7, [.int (mf 0), .ref (mm 1), .ref (mm 2), .ref (mm 3), .ref (mm 4), .ref (mm 5), .int (mf 6), .int (mf 7), .int (mf 8), .int (mf 9), .int (mf 10), .int (mf 11), .int (mf 12), .int (mf 13), .int (mf 14), .int (mf 15), .int (mf 16), .ref (mm 6), .int (mf 18), .ref (mm 7), .ref (mm 8), .ref (mm 9), .int (mf 22), .ref (mm 10), .ref (mm 11), .int (mf 25), .int (mf 26), .ref (mm 12), .ref (mm 13), .int (mf 29), .ref (mm 14), .ref (mm 15), .ref (mm 16)])), ((mm 4), .inl (k 0, 900, .inl tf))] sz) (fun uu : Int32 × Int32 × Int32 × Int32 × Int32 × Int32 => [((mm 0), .inr (7, [.int (mf 0), .ref (mm 1), .ref (mm 2), .ref (mm 3), .ref (mm 4), .ref (mm 5), .int (mf 6), .int uu.1, .int uu.2.1, .int (mf 9), .int uu.2.2.1, .int uu.2.2.2.1, .int uu.2.2.2.2.1, .int uu.2.2.2.2.2, .int (mf 14), .int (mf 15), .int (mf 16), .ref (mm 6), .int (mf 18), .ref (mm 7), .ref (mm 8), .ref (mm 9), .int (mf 22), .ref (mm 10), .ref (mm 11), .int (mf 25), .int (mf 26), .ref (mm 12), .ref (mm 13), .int (mf 29), .ref (mm 14), .ref (mm 15), .ref (mm 16)])), ((mm 4), .inl (k 0, 900, .inl tf))])) (va_A [((mm 0), .inr (7, [.int (mf 0), .ref (mm 1), .ref (mm 2), .ref (mm 3), .ref (mm 4), .ref (mm 5), .int (mf 6), .int (mf 7), .int (mf 8), .int (mf 9), .int (mf 10), .int (mf 11), .int (mf 12), .int (mf 13), .int (mf 14), .int (mf 15), .int (mf 16), .ref (mm 6), .int (mf 18), .ref (mm 7), .ref (mm 8), .ref (mm 9), .int (mf 22), .ref (mm 10), .ref (mm 11), .int (mf 25), .int (mf 26), .ref (mm 12), .ref (mm 13), .int (mf 29), .ref (mm 14), .ref (mm 15), .ref (mm 16)])), ((mm 4), .inl (k 0, 900, .inl tf))] sz)) 0 0 (va_A [((mm 0), .inr (7, [.int (mf 0), .ref (mm 1), .ref (mm 2), .ref (mm 3), .ref (mm 4), .ref (mm 5), .int (mf 6), .int (mf 7), .int (mf 8), .int (mf 9), .int (mf 10), .int (mf 11), .int (mf 12), .int (mf 13), .int (mf 14), .int (mf 15), .int (mf 16), .ref (mm 6), .int (mf 18), .ref (mm 7), .ref (mm 8), .ref (mm 9), .int (mf 22), .ref (mm 10), .ref (mm 11), .int (mf 25), .int (mf 26), .ref (mm 12), .ref (mm 13), .int (mf 29), .ref (mm 14), .ref (mm 15), .ref (mm 16)])), ((mm 4), .inl (k 0, 900, .inl tf))] sz) := by
  refine Met.ofW (cc := cX8_takes) (maxL := 4) (ret := (some .int)) (by decide) rfl ?_
  intro p e s m args below meth c s₁ B hml hv
  obtain ⟨rfl, hsz, hP, hK, hD0, hN0, hW0⟩ := hv
  have hx := B.exec
  have hb := B.bytes
  have hr := B.returns
  have hts : ∀ w ∈ wsL_law, w.before _ s = true := fun w h => atoms_spec (ws := Cond.code yX8_takes cX8_takes 4 (some .int) :: wsL_law) B.pre w (List.mem_cons_of_mem _ h)
  have hown : s.vm.findClass RX8 = some m.cls := findClass_of_methodNamed B.named
  have hlocks := B.notSynchronized
  subst hsz
  have hD := hD0.self (sz := s.heap.size)
  generalize hAe : va_A [((mm 0), .inr (7, [.int (mf 0), .ref (mm 1), .ref (mm 2), .ref (mm 3), .ref (mm 4), .ref (mm 5), .int (mf 6), .int (mf 7), .int (mf 8), .int (mf 9), .int (mf 10), .int (mf 11), .int (mf 12), .int (mf 13), .int (mf 14), .int (mf 15), .int (mf 16), .ref (mm 6), .int (mf 18), .ref (mm 7), .ref (mm 8), .ref (mm 9), .int (mf 22), .ref (mm 10), .ref (mm 11), .int (mf 25), .int (mf 26), .ref (mm 12), .ref (mm 13), .int (mf 29), .ref (mm 14), .ref (mm 15), .ref (mm 16)])), ((mm 4), .inl (k 0, 900, .inl tf))] s.heap.size = A at hD hW0 ⊢
  have hA : ∀ q : Nat, s.heap.size ≤ q → A q := fun q h => by rw [← hAe]; exact Or.inr h
  have hS : va_S A s.heap s.heap [] := va_S.rf
  replace hP : va_P D vwCl [((mm 0), .inr (7, [.int (mf 0), .ref (mm 1), .ref (mm 2), .ref (mm 3), .ref (mm 4), .ref (mm 5), .int (mf 6), .int (mf 7), .int (mf 8), .int (mf 9), .int (mf 10), .int (mf 11), .int (mf 12), .int (mf 13), .int (mf 14), .int (mf 15), .int (mf 16), .ref (mm 6), .int (mf 18), .ref (mm 7), .ref (mm 8), .ref (mm 9), .int (mf 22), .ref (mm 10), .ref (mm 11), .int (mf 25), .int (mf 26), .ref (mm 12), .ref (mm 13), .int (mf 29), .ref (mm 14), .ref (mm 15), .ref (mm 16)])), ((mm 4), .inl (k 0, 900, .inl tf))] s.heap := hP
  have hl := lv_entry ([.ref (mm 0), .int x, .int z]) (n := 4) (Nat.le_of_ble_eq_true rfl)
  rw [lg_entry_eq]
  generalize (lg_sl ([.ref (mm 0), .int x, .int z]) ++ List.replicate (4 - (lg_sl ([.ref (mm 0), .int x, .int z])).length) Slot.unset).toArray = ls at hl ⊢
  replace hl : lv_has ls 4 [(0, .ref (mm 0)), (1, .int x), (2, .int z)] := hl
  refine lv_aload_n hx hb dX8_takes_0 rfl (lv_at hl 0 rfl) ?_
  refine lv_bipush (v := 11) hx hb dX8_takes_1 (by decide) ?_
  refine kV_i (q0 := 0) (As := [.int 11]) (rest := []) ⟨hx, hb, hml, hown, hts⟩ (s_M_is l D k _ mf 11) (gV mwn_323 mwn_324 mwn_325 mwn_5 mwn_326) hdn_yX8_is rfl rfl ⟨Nat.le_of_ble_eq_true rfl, Nat.le_of_ble_eq_true rfl⟩ hK hN0 (hP.sub [0] rfl) rfl rfl rfl rfl hl.1 rfl (Nat.le_of_ble_eq_true rfl) dX8_takes_3 ⟨Nat.le_of_ble_eq_true rfl, Nat.le_of_ble_eq_true rfl⟩ (fun r_1 hr_1 => ?_)
  replace hr_1 : r_1.toInt = 0 ∨ (r_1.toInt = 1 ∧ (mf 12).toInt = 0 ∧ (mf 10).toInt = 11) := hr_1
  refine lv_if_ne (tgt := 17) hx hb dX8_takes_6 (by decide) (fun c_2 => ?_) (fun c_2 => ?_)
  · have c_2 : r_1.toInt ≠ 0 := ti_ne c_2
    have qc_2 : r_1 = 1 := ti_of (show r_1.toInt = 1 from by omega)
    refine lv_aload_n hx hb dX8_takes_17 rfl (lv_at hl 0 rfl) ?_
    refine va_get (D := D) (ci := 7) (v := .int (mf 11)) (C := RX8) (T := TX8) (N := 33) hx hb hts inlX8 hown hK hP 0 rfl rfl 11 (by decide) (hts _ mwn_302) (fun _ h9 => h9) rfl dX8_takes_18 ?_
    refine lv_i2l (v := (mf 11).toInt64) hx hb dX8_takes_21 rfl ?_
    refine lv_iload_n hx hb dX8_takes_22 rfl (lv_at hl 1 rfl) ?_
    refine lv_i2l (v := x.toInt64) hx hb dX8_takes_23 rfl ?_
    refine lv_iload_n hx hb dX8_takes_24 rfl (lv_at hl 2 rfl) ?_
    refine lv_i2l (v := z.toInt64) hx hb dX8_takes_25 rfl ?_
    refine kS_i (As := [.long (mf 11).toInt64, .long x.toInt64, .long z.toInt64]) (rest := []) ⟨hx, hb, hml, hown, hts⟩ (s_M_within l D k ((mf 11).toInt64) x.toInt64 z.toInt64) (gS mwn_294 mwn_295 mwn_5 mwn_296) hdn_yX8_within rfl rfl ⟨Nat.le_of_ble_eq_true rfl, Nat.le_of_ble_eq_true rfl⟩ hK hN0 (hP.sub [] rfl) rfl hl.1 rfl (Nat.le_of_ble_eq_true rfl) dX8_takes_26 ⟨Nat.le_of_ble_eq_true rfl, Nat.le_of_ble_eq_true rfl⟩ (fun r_3 hr_3 => ?_)
    have ew_4 : ((mf 11).toInt64).toInt = (mf 11).toInt := Int32.toInt_toInt64 (mf 11)
    have ew_5 : x.toInt64.toInt = x.toInt := Int32.toInt_toInt64 x
    have ew_6 : z.toInt64.toInt = z.toInt := Int32.toInt_toInt64 z
    by_cases hc_7 : x.toInt ≤ (mf 11).toInt ∧ (mf 11).toInt ≤ z.toInt
    · obtain rfl : r_3 = 1 := hr_3.trans (if_pos (show x.toInt64.toInt ≤ ((mf 11).toInt64).toInt ∧ ((mf 11).toInt64).toInt ≤ z.toInt64.toInt from by omega))
      refine lv_if_ne (tgt := 37) hx hb dX8_takes_29 (by decide) (fun _ => ?_) (fun c9 => absurd c9 (by decide))
      refine lv_aload_n hx hb dX8_takes_37 rfl (lv_at hl 0 rfl) ?_
      refine va_get (D := D) (ci := 7) (v := .int (mf 11)) (C := RX8) (T := TX8) (N := 33) hx hb hts inlX8 hown hK hP 0 rfl rfl 11 (by decide) (hts _ mwn_302) (fun _ h9 => h9) rfl dX8_takes_38 ?_
      refine lv_istore_n (lv' := [(3, .int (mf 11)), (0, .ref (mm 0)), (1, .int x), (2, .int z)]) hx hb dX8_takes_41 rfl hl (by decide) rfl (fun ls hl => ?_)
      refine lv_aload_n hx hb dX8_takes_42 rfl (lv_at hl 1 rfl) ?_
      refine va_get (D := D) (ci := 7) (v := .int (mf 12)) (C := RX8) (T := TX8) (N := 33) hx hb hts inlX8 hown hK hP 0 rfl rfl 12 (by decide) (hts _ mwn_289) (fun _ h9 => h9) rfl dX8_takes_43 ?_
      refine lv_if_ne (tgt := 53) hx hb dX8_takes_46 (by decide) (fun c_8 => ?_) (fun c_8 => ?_)
      · have c_8 : (mf 12).toInt ≠ 0 := ti_ne c_8
        refine lv_iload_n hx hb dX8_takes_53 rfl (lv_at hl 0 rfl) ?_
        exact W.iret (v := (mf 11)) hx hb hr (fun t ht hW => ⟨⟨(mf 11), ((mf 7), (mf 8), (mf 10), (mf 11), (mf 12), (mf 13)), rfl, ⟨(show (mf 12).toInt ≠ 0 ∨ (x.toInt ≤ (mf 11).toInt ∧ (mf 11).toInt ≤ z.toInt) from by omega), (show 0 ≤ (mf 7).toInt ∧ (mf 7).toInt ≤ 900 from ⟨by omega, by omega⟩), (show 0 ≤ (mf 8).toInt ∧ (mf 8).toInt ≤ 900 from ⟨by omega, by omega⟩), (show (mf 7).toInt ≤ (mf 8).toInt from by omega), (show (mf 8).toInt ≤ (mf 9).toInt from by omega), (show (mf 10).toInt = 13 ∨ (mf 7).toInt < (mf 8).toInt from by omega), (show (mf 7).toInt ≤ (mf 7).toInt from by omega), (show (mf 12).toInt ≠ 0 ∨ (mf 12).toInt = 0 from by omega)⟩, by rw [ht]; exact hP.sub [0, 1] rfl, hD.sub [0, 1] (by decide) rfl⟩, hS.F ht⟩) hS.2.2 dX8_takes_54
      · have c_8 : (mf 12).toInt = 0 := ti_eq c_8
        have qc_8 : (mf 12) = 0 := ti_of (show (mf 12).toInt = 0 from by omega)
        refine lv_aload_n hx hb dX8_takes_49 rfl (lv_at hl 1 rfl) ?_
        refine kV_uvs (q0 := 0) (As := []) (rest := []) (wr := []) ⟨hx, hb, hml, hown, hts⟩ (s_M_nextToken l D k ak av _ mf tf _ (show 0 ≤ (mf 8).toInt ∧ (mf 8).toInt ≤ 900 from ⟨by omega, by omega⟩) (show 0 ≤ (mf 9).toInt ∧ (mf 9).toInt ≤ 900 from ⟨by omega, by omega⟩) (show (mf 8).toInt ≤ (mf 9).toInt from by omega)) (gV mwn_297 mwn_298 mwn_299 mwn_5 mwn_300) hdn_yX8_nextToken rfl rfl ⟨Nat.le_of_ble_eq_true rfl, Nat.le_of_ble_eq_true rfl⟩ hK hN0 hW0 hS hP hD hS hA [0, 1] [] rfl rfl (by decide) (by decide) (by decide) rfl rfl rfl rfl hl.1 rfl (Nat.le_of_ble_eq_true rfl) dX8_takes_50 ⟨Nat.le_of_ble_eq_true rfl, Nat.le_of_ble_eq_true rfl⟩ (fun u_10 H locs hw hP hD hS => ?_)
        obtain ⟨v_11, v_12, v_13, v_14⟩ := u_10
        obtain ⟨h_15, h_16, h_17, h_18, h_19, h_20⟩ := hw
        replace h_15 : 0 ≤ v_11.toInt ∧ v_11.toInt ≤ 900 := h_15
        replace h_16 : 0 ≤ v_12.toInt ∧ v_12.toInt ≤ 900 := h_16
        replace h_17 : v_11.toInt ≤ v_12.toInt := h_17
        replace h_18 : v_12.toInt ≤ (mf 9).toInt := h_18
        replace h_19 : v_13.toInt = 13 ∨ v_11.toInt < v_12.toInt := h_19
        replace h_20 : (mf 8).toInt ≤ v_11.toInt := h_20
        replace hP : va_P D vwCl [((mm 0), .inr (7, [.int (mf 0), .ref (mm 1), .ref (mm 2), .ref (mm 3), .ref (mm 4), .ref (mm 5), .int (mf 6), .int v_11, .int v_12, .int (mf 9), .int v_13, .int v_14, .int (mf 12), .int (mf 13), .int (mf 14), .int (mf 15), .int (mf 16), .ref (mm 6), .int (mf 18), .ref (mm 7), .ref (mm 8), .ref (mm 9), .int (mf 22), .ref (mm 10), .ref (mm 11), .int (mf 25), .int (mf 26), .ref (mm 12), .ref (mm 13), .int (mf 29), .ref (mm 14), .ref (mm 15), .ref (mm 16)])), ((mm 4), .inl (k 0, 900, .inl tf))] H := hP
        replace hD : va_D A [((mm 0), .inr (7, [.int (mf 0), .ref (mm 1), .ref (mm 2), .ref (mm 3), .ref (mm 4), .ref (mm 5), .int (mf 6), .int v_11, .int v_12, .int (mf 9), .int v_13, .int v_14, .int (mf 12), .int (mf 13), .int (mf 14), .int (mf 15), .int (mf 16), .ref (mm 6), .int (mf 18), .ref (mm 7), .ref (mm 8), .ref (mm 9), .int (mf 22), .ref (mm 10), .ref (mm 11), .int (mf 25), .int (mf 26), .ref (mm 12), .ref (mm 13), .int (mf 29), .ref (mm 14), .ref (mm 15), .ref (mm 16)])), ((mm 4), .inl (k 0, 900, .inl tf))] := hD
        refine lv_iload_n hx hb dX8_takes_53 rfl (lv_at hl 0 rfl) ?_
        exact W.iret (v := (mf 11)) hx hb hr (fun t ht hW => ⟨⟨(mf 11), (v_11, v_12, v_13, v_14, (mf 12), (mf 13)), rfl, ⟨(show (mf 12).toInt ≠ 0 ∨ (x.toInt ≤ (mf 11).toInt ∧ (mf 11).toInt ≤ z.toInt) from by omega), (show 0 ≤ v_11.toInt ∧ v_11.toInt ≤ 900 from ⟨by omega, by omega⟩), (show 0 ≤ v_12.toInt ∧ v_12.toInt ≤ 900 from ⟨by omega, by omega⟩), (show v_11.toInt ≤ v_12.toInt from by omega), (show v_12.toInt ≤ (mf 9).toInt from by omega), (show v_13.toInt = 13 ∨ v_11.toInt < v_12.toInt from by omega), (show (mf 7).toInt ≤ v_11.toInt from by omega), (show (mf 12).toInt ≠ 0 ∨ (mf 12).toInt = 0 from by omega)⟩, by rw [ht]; exact hP.sub [0, 1] rfl, hD.sub [0, 1] (by decide) rfl⟩, hS.F ht⟩) hS.2.2 dX8_takes_54
    have hr_3 := hr_3.trans (if_neg (show ¬ (x.toInt64.toInt ≤ ((mf 11).toInt64).toInt ∧ ((mf 11).toInt64).toInt ≤ z.toInt64.toInt) from by omega))
    obtain rfl : r_3 = 0 := hr_3
    refine lv_if_ne (tgt := 37) hx hb dX8_takes_29 (by decide) (fun c9 => absurd c9 (by decide)) (fun _ => ?_)
    refine lv_aload_n hx hb dX8_takes_32 rfl (lv_at hl 0 rfl) ?_
    refine lv_iconst (v := 3) hx hb dX8_takes_33 (by decide) ?_
    refine kV_uv (q0 := 0) (As := [.int 3]) (rest := []) (wr := [((mm 4), .inl (k 0, 900, .inl tf))]) ⟨hx, hb, hml, hown, hts⟩ (s_M_fails l D k _ mf 3 _ (show 1 ≤ (3 : Int32).toInt ∧ (3 : Int32).toInt ≤ 4 from ⟨by decide, by decide⟩)) (gV mwn_331 mwn_332 mwn_333 mwn_5 mwn_334) hdn_yX8_fails rfl rfl ⟨Nat.le_of_ble_eq_true rfl, Nat.le_of_ble_eq_true rfl⟩ hK hN0 hP hD hS hA [0] [1] rfl rfl (by decide) (by decide) (by decide) rfl rfl rfl rfl hl.1 rfl (Nat.le_of_ble_eq_true rfl) dX8_takes_34 ⟨Nat.le_of_ble_eq_true rfl, Nat.le_of_ble_eq_true rfl⟩ (fun u_22 H locs hw hP hD hS => ?_)
    obtain ⟨v_23, v_24⟩ := u_22
    have h_25 := hw
    replace h_25 : v_23.toInt ≠ 0 := h_25
    replace hP : va_P D vwCl [((mm 4), .inl (k 0, 900, .inl tf)), ((mm 0), .inr (7, [.int (mf 0), .ref (mm 1), .ref (mm 2), .ref (mm 3), .ref (mm 4), .ref (mm 5), .int (mf 6), .int (mf 7), .int (mf 8), .int (mf 9), .int (mf 10), .int (mf 11), .int v_23, .int v_24, .int (mf 14), .int (mf 15), .int (mf 16), .ref (mm 6), .int (mf 18), .ref (mm 7), .ref (mm 8), .ref (mm 9), .int (mf 22), .ref (mm 10), .ref (mm 11), .int (mf 25), .int (mf 26), .ref (mm 12), .ref (mm 13), .int (mf 29), .ref (mm 14), .ref (mm 15), .ref (mm 16)]))] H := hP
    replace hD : va_D A [((mm 4), .inl (k 0, 900, .inl tf)), ((mm 0), .inr (7, [.int (mf 0), .ref (mm 1), .ref (mm 2), .ref (mm 3), .ref (mm 4), .ref (mm 5), .int (mf 6), .int (mf 7), .int (mf 8), .int (mf 9), .int (mf 10), .int (mf 11), .int v_23, .int v_24, .int (mf 14), .int (mf 15), .int (mf 16), .ref (mm 6), .int (mf 18), .ref (mm 7), .ref (mm 8), .ref (mm 9), .int (mf 22), .ref (mm 10), .ref (mm 11), .int (mf 25), .int (mf 26), .ref (mm 12), .ref (mm 13), .int (mf 29), .ref (mm 14), .ref (mm 15), .ref (mm 16)]))] := hD
    refine lv_aload_n hx hb dX8_takes_37 rfl (lv_at hl 0 rfl) ?_
    refine va_get (D := D) (ci := 7) (v := .int (mf 11)) (C := RX8) (T := TX8) (N := 33) hx hb hts inlX8 hown hK hP 1 rfl rfl 11 (by decide) (hts _ mwn_302) (fun _ h9 => h9) rfl dX8_takes_38 ?_
    refine lv_istore_n (lv' := [(3, .int (mf 11)), (0, .ref (mm 0)), (1, .int x), (2, .int z)]) hx hb dX8_takes_41 rfl hl (by decide) rfl (fun ls hl => ?_)
    refine lv_aload_n hx hb dX8_takes_42 rfl (lv_at hl 1 rfl) ?_
    refine va_get (D := D) (ci := 7) (v := .int v_23) (C := RX8) (T := TX8) (N := 33) hx hb hts inlX8 hown hK hP 1 rfl rfl 12 (by decide) (hts _ mwn_289) (fun _ h9 => h9) rfl dX8_takes_43 ?_
    refine lv_if_ne (tgt := 53) hx hb dX8_takes_46 (by decide) (fun c_26 => ?_) (fun c_26 => by have q := ti_eq c_26; have q : v_23.toInt = 0 := q; exfalso; omega)
    have c_26 : v_23.toInt ≠ 0 := ti_ne c_26
    refine lv_iload_n hx hb dX8_takes_53 rfl (lv_at hl 0 rfl) ?_
    exact W.iret (v := (mf 11)) hx hb hr (fun t ht hW => ⟨⟨(mf 11), ((mf 7), (mf 8), (mf 10), (mf 11), v_23, v_24), rfl, ⟨(show v_23.toInt ≠ 0 ∨ (x.toInt ≤ (mf 11).toInt ∧ (mf 11).toInt ≤ z.toInt) from by omega), (show 0 ≤ (mf 7).toInt ∧ (mf 7).toInt ≤ 900 from ⟨by omega, by omega⟩), (show 0 ≤ (mf 8).toInt ∧ (mf 8).toInt ≤ 900 from ⟨by omega, by omega⟩), (show (mf 7).toInt ≤ (mf 8).toInt from by omega), (show (mf 8).toInt ≤ (mf 9).toInt from by omega), (show (mf 10).toInt = 13 ∨ (mf 7).toInt < (mf 8).toInt from by omega), (show (mf 7).toInt ≤ (mf 7).toInt from by omega), (show v_23.toInt ≠ 0 ∨ (mf 12).toInt = 0 from by omega)⟩, by rw [ht]; exact hP.sub [1, 0] rfl, hD.sub [1, 0] (by decide) rfl⟩, hS.F ht⟩) hS.2.2 dX8_takes_54
  · have c_2 : r_1.toInt = 0 := ti_eq c_2
    have qc_2 : r_1 = 0 := ti_of (show r_1.toInt = 0 from by omega)
    refine lv_aload_n hx hb dX8_takes_9 rfl (lv_at hl 0 rfl) ?_
    refine lv_iconst (v := 2) hx hb dX8_takes_10 (by decide) ?_
    refine kV_uv (q0 := 0) (As := [.int 2]) (rest := []) (wr := [((mm 4), .inl (k 0, 900, .inl tf))]) ⟨hx, hb, hml, hown, hts⟩ (s_M_fails l D k _ mf 2 _ (show 1 ≤ (2 : Int32).toInt ∧ (2 : Int32).toInt ≤ 4 from ⟨by decide, by decide⟩)) (gV mwn_331 mwn_332 mwn_333 mwn_5 mwn_334) hdn_yX8_fails rfl rfl ⟨Nat.le_of_ble_eq_true rfl, Nat.le_of_ble_eq_true rfl⟩ hK hN0 hP hD hS hA [0] [1] rfl rfl (by decide) (by decide) (by decide) rfl rfl rfl rfl hl.1 rfl (Nat.le_of_ble_eq_true rfl) dX8_takes_11 ⟨Nat.le_of_ble_eq_true rfl, Nat.le_of_ble_eq_true rfl⟩ (fun u_28 H locs hw hP hD hS => ?_)
    obtain ⟨v_29, v_30⟩ := u_28
    have h_31 := hw
    replace h_31 : v_29.toInt ≠ 0 := h_31
    replace hP : va_P D vwCl [((mm 4), .inl (k 0, 900, .inl tf)), ((mm 0), .inr (7, [.int (mf 0), .ref (mm 1), .ref (mm 2), .ref (mm 3), .ref (mm 4), .ref (mm 5), .int (mf 6), .int (mf 7), .int (mf 8), .int (mf 9), .int (mf 10), .int (mf 11), .int v_29, .int v_30, .int (mf 14), .int (mf 15), .int (mf 16), .ref (mm 6), .int (mf 18), .ref (mm 7), .ref (mm 8), .ref (mm 9), .int (mf 22), .ref (mm 10), .ref (mm 11), .int (mf 25), .int (mf 26), .ref (mm 12), .ref (mm 13), .int (mf 29), .ref (mm 14), .ref (mm 15), .ref (mm 16)]))] H := hP
    replace hD : va_D A [((mm 4), .inl (k 0, 900, .inl tf)), ((mm 0), .inr (7, [.int (mf 0), .ref (mm 1), .ref (mm 2), .ref (mm 3), .ref (mm 4), .ref (mm 5), .int (mf 6), .int (mf 7), .int (mf 8), .int (mf 9), .int (mf 10), .int (mf 11), .int v_29, .int v_30, .int (mf 14), .int (mf 15), .int (mf 16), .ref (mm 6), .int (mf 18), .ref (mm 7), .ref (mm 8), .ref (mm 9), .int (mf 22), .ref (mm 10), .ref (mm 11), .int (mf 25), .int (mf 26), .ref (mm 12), .ref (mm 13), .int (mf 29), .ref (mm 14), .ref (mm 15), .ref (mm 16)]))] := hD
    refine lv_goto (tgt := 37) hx hb dX8_takes_14 (by decide) ?_
    refine lv_aload_n hx hb dX8_takes_37 rfl (lv_at hl 0 rfl) ?_
    refine va_get (D := D) (ci := 7) (v := .int (mf 11)) (C := RX8) (T := TX8) (N := 33) hx hb hts inlX8 hown hK hP 1 rfl rfl 11 (by decide) (hts _ mwn_302) (fun _ h9 => h9) rfl dX8_takes_38 ?_
    refine lv_istore_n (lv' := [(3, .int (mf 11)), (0, .ref (mm 0)), (1, .int x), (2, .int z)]) hx hb dX8_takes_41 rfl hl (by decide) rfl (fun ls hl => ?_)
    refine lv_aload_n hx hb dX8_takes_42 rfl (lv_at hl 1 rfl) ?_
    refine va_get (D := D) (ci := 7) (v := .int v_29) (C := RX8) (T := TX8) (N := 33) hx hb hts inlX8 hown hK hP 1 rfl rfl 12 (by decide) (hts _ mwn_289) (fun _ h9 => h9) rfl dX8_takes_43 ?_
    refine lv_if_ne (tgt := 53) hx hb dX8_takes_46 (by decide) (fun c_32 => ?_) (fun c_32 => by have q := ti_eq c_32; have q : v_29.toInt = 0 := q; exfalso; omega)
    have c_32 : v_29.toInt ≠ 0 := ti_ne c_32
    refine lv_iload_n hx hb dX8_takes_53 rfl (lv_at hl 0 rfl) ?_
    exact W.iret (v := (mf 11)) hx hb hr (fun t ht hW => ⟨⟨(mf 11), ((mf 7), (mf 8), (mf 10), (mf 11), v_29, v_30), rfl, ⟨(show v_29.toInt ≠ 0 ∨ (x.toInt ≤ (mf 11).toInt ∧ (mf 11).toInt ≤ z.toInt) from by omega), (show 0 ≤ (mf 7).toInt ∧ (mf 7).toInt ≤ 900 from ⟨by omega, by omega⟩), (show 0 ≤ (mf 8).toInt ∧ (mf 8).toInt ≤ 900 from ⟨by omega, by omega⟩), (show (mf 7).toInt ≤ (mf 8).toInt from by omega), (show (mf 8).toInt ≤ (mf 9).toInt from by omega), (show (mf 10).toInt = 13 ∨ (mf 7).toInt < (mf 8).toInt from by omega), (show (mf 7).toInt ≤ (mf 7).toInt from by omega), (show v_29.toInt ≠ 0 ∨ (mf 12).toInt = 0 from by omega)⟩, by rw [ht]; exact hP.sub [1, 0] rfl, hD.sub [1, 0] (by decide) rfl⟩, hS.F ht⟩) hS.2.2 dX8_takes_54
set_option maxHeartbeats 4000000 in
set_option maxRecDepth 100000 in
theorem s_M_readLayer (l : Launch) (D : va_G) (k : Nat → ClassId) (ak : Nat → Nat) (av : Nat → Nat) (mm : Nat → Nat) (mf : Nat → Int32) (tf : Nat → Int32) (ef : Nat → Int32) (r : Int32) (d : Int32) (sz : Nat) (w_t7 : 0 ≤ (mf 7).toInt ∧ (mf 7).toInt ≤ 900) (w_t8 : 0 ≤ (mf 8).toInt ∧ (mf 8).toInt ≤ 900) (w_t9 : 0 ≤ (mf 9).toInt ∧ (mf 9).toInt ≤ 900) (w_ta : (mf 7).toInt ≤ (mf 8).toInt) (w_tb : (mf 8).toInt ≤ (mf 9).toInt) (w_tc : (mf 10).toInt = 13 ∨ (mf 7).toInt < (mf 8).toInt) (w_w0 : (mf 12).toInt = 0) (w_hr : 0 ≤ r.toInt ∧ r.toInt ≤ 9) (w_hd : 0 ≤ d.toInt ∧ d.toInt ≤ 6) (w_rl : RoL (mf 12) r d ef) : Met l yX8_readLayer (Cond.code yX8_readLayer cX8_readLayer 9 none :: wsL_law) ({ frames := 7, cells := 0, slots := 0, locals := 420 } : Room) (va_Pc [.ref (mm 0), .int r, .int d] (pus ak av D k sz [((mm 0), .inr (7, [.int (mf 0), .ref (mm 1), .ref (mm 2), .ref (mm 3), .ref (mm 4), .ref (mm 5), .int (mf 6), .int (mf 7), .int (mf 8), .int (mf 9), .int (mf 10), .int (mf 11), .int (mf 12), .int (mf 13), .int (mf 14), .int (mf 15), .int (mf 16), .ref (mm 6), .int (mf 18), .ref (mm 7), .ref (mm 8), .ref (mm 9), .int (mf 22), .ref (mm 10), .ref (mm 11), .int (mf 25), .int (mf 26), .ref (mm 12), .ref (mm 13), .int (mf 29), .ref (mm 14), .ref (mm 15), .ref (mm 16)])), ((mm 4), .inl (k 0, 900, .inl tf)), ((mm 5), .inl (k 0, 409, .inl ef))])) (va_Qv (fun uu : Int32 × Int32 × Int32 × Int32 × Int32 × Int32 × (Nat → Int32) => (0 ≤ uu.1.toInt ∧ uu.1.toInt ≤ 900) ∧ (0 ≤ uu.2.1.toInt ∧ uu.2.1.toInt ≤ 900) ∧ (uu.1.toInt ≤ uu.2.1.toInt) ∧ (uu.2.1.toInt ≤ (mf 9).toInt) ∧ (uu.2.2.1.toInt = 13 ∨ uu.1.toInt < uu.2.1.toInt) ∧ ((mf 7).toInt ≤ uu.1.toInt) ∧ (RoL uu.2.2.2.2.1 r (d + 1) uu.2.2.2.2.2.2)) (qu D (va_A [((mm 0), .inr (7, [.int (mf 0), .ref (mm 1), .ref (mm 2), .ref (mm 3), .ref (mm 4), .ref (mm 5), .int (mf 6), .int (mf 7), .int (mf 8), .int (mf 9), .int (mf 10), .int (mf 11), .int (mf 12), .int (mf 13), .int (mf 14), .int (mf 15), .int (mf 16), .ref (mm 6), .int (mf 18), .ref (mm 7), .ref (mm 8), .ref (mm 9), .int (mf 22), .ref (mm 10), .ref (mm 11), .int (mf 25), .int (mf 26), .ref (mm 12), .ref (mm 13), .int (mf 29), .ref (mm 14), .ref (mm 15), .ref (mm 16)])), ((mm 4), .inl (k 0, 900, .inl tf)), ((mm 5), .inl (k 0, 409, .inl ef))] sz) (fun uu : Int32 × Int32 × Int32 × Int32 × Int32 × Int32 × (Nat → Int32) => [((mm 0), .inr (7, [.int (mf 0), .ref (mm 1), .ref (mm 2), .ref (mm 3), .ref (mm 4), .ref (mm 5), .int (mf 6), .int uu.1, .int uu.2.1, .int (mf 9), .int uu.2.2.1, .int uu.2.2.2.1, .int uu.2.2.2.2.1, .int uu.2.2.2.2.2.1, .int (mf 14), .int (mf 15), .int (mf 16), .ref (mm 6), .int (mf 18), .ref (mm 7), .ref (mm 8), .ref (mm 9), .int (mf 22), .ref (mm 10), .ref (mm 11), .int (mf 25), .int (mf 26), .ref (mm 12), .ref (mm 13), .int (mf 29), .ref (mm 14), .ref (mm 15), .ref (mm 16)])), ((mm 4), .inl (k 0, 900, .inl tf)), ((mm 5), .inl (k 0, 409, .inl uu.2.2.2.2.2.2))])) (va_A [((mm 0), .inr (7, [.int (mf 0), .ref (mm 1), .ref (mm 2), .ref (mm 3), .ref (mm 4), .ref (mm 5), .int (mf 6), .int (mf 7), .int (mf 8), .int (mf 9), .int (mf 10), .int (mf 11), .int (mf 12), .int (mf 13), .int (mf 14), .int (mf 15), .int (mf 16), .ref (mm 6), .int (mf 18), .ref (mm 7), .ref (mm 8), .ref (mm 9), .int (mf 22), .ref (mm 10), .ref (mm 11), .int (mf 25), .int (mf 26), .ref (mm 12), .ref (mm 13), .int (mf 29), .ref (mm 14), .ref (mm 15), .ref (mm 16)])), ((mm 4), .inl (k 0, 900, .inl tf)), ((mm 5), .inl (k 0, 409, .inl ef))] sz)) 0 0 (va_A [((mm 0), .inr (7, [.int (mf 0), .ref (mm 1), .ref (mm 2), .ref (mm 3), .ref (mm 4), .ref (mm 5), .int (mf 6), .int (mf 7), .int (mf 8), .int (mf 9), .int (mf 10), .int (mf 11), .int (mf 12), .int (mf 13), .int (mf 14), .int (mf 15), .int (mf 16), .ref (mm 6), .int (mf 18), .ref (mm 7), .ref (mm 8), .ref (mm 9), .int (mf 22), .ref (mm 10), .ref (mm 11), .int (mf 25), .int (mf 26), .ref (mm 12), .ref (mm 13), .int (mf 29), .ref (mm 14), .ref (mm 15), .ref (mm 16)])), ((mm 4), .inl (k 0, 900, .inl tf)), ((mm 5), .inl (k 0, 409, .inl ef))] sz) := by
  refine Met.ofW (cc := cX8_readLayer) (maxL := 9) (ret := none) (by decide) rfl ?_
  intro p e s m args below meth c s₁ B hml hv
  obtain ⟨rfl, hsz, hP, hK, hD0, hN0, hW0⟩ := hv
  have hx := B.exec
  have hb := B.bytes
  have hr := B.returns
  have hts : ∀ w ∈ wsL_law, w.before _ s = true := fun w h => atoms_spec (ws := Cond.code yX8_readLayer cX8_readLayer 9 none :: wsL_law) B.pre w (List.mem_cons_of_mem _ h)
  have hown : s.vm.findClass RX8 = some m.cls := findClass_of_methodNamed B.named
  have hlocks := B.notSynchronized
  subst hsz
  have hD := hD0.self (sz := s.heap.size)
  generalize hAe : va_A [((mm 0), .inr (7, [.int (mf 0), .ref (mm 1), .ref (mm 2), .ref (mm 3), .ref (mm 4), .ref (mm 5), .int (mf 6), .int (mf 7), .int (mf 8), .int (mf 9), .int (mf 10), .int (mf 11), .int (mf 12), .int (mf 13), .int (mf 14), .int (mf 15), .int (mf 16), .ref (mm 6), .int (mf 18), .ref (mm 7), .ref (mm 8), .ref (mm 9), .int (mf 22), .ref (mm 10), .ref (mm 11), .int (mf 25), .int (mf 26), .ref (mm 12), .ref (mm 13), .int (mf 29), .ref (mm 14), .ref (mm 15), .ref (mm 16)])), ((mm 4), .inl (k 0, 900, .inl tf)), ((mm 5), .inl (k 0, 409, .inl ef))] s.heap.size = A at hD hW0 ⊢
  have hA : ∀ q : Nat, s.heap.size ≤ q → A q := fun q h => by rw [← hAe]; exact Or.inr h
  have hS : va_S A s.heap s.heap [] := va_S.rf
  replace hP : va_P D vwCl [((mm 0), .inr (7, [.int (mf 0), .ref (mm 1), .ref (mm 2), .ref (mm 3), .ref (mm 4), .ref (mm 5), .int (mf 6), .int (mf 7), .int (mf 8), .int (mf 9), .int (mf 10), .int (mf 11), .int (mf 12), .int (mf 13), .int (mf 14), .int (mf 15), .int (mf 16), .ref (mm 6), .int (mf 18), .ref (mm 7), .ref (mm 8), .ref (mm 9), .int (mf 22), .ref (mm 10), .ref (mm 11), .int (mf 25), .int (mf 26), .ref (mm 12), .ref (mm 13), .int (mf 29), .ref (mm 14), .ref (mm 15), .ref (mm 16)])), ((mm 4), .inl (k 0, 900, .inl tf)), ((mm 5), .inl (k 0, 409, .inl ef))] s.heap := hP
  have hl := lv_entry ([.ref (mm 0), .int r, .int d]) (n := 9) (Nat.le_of_ble_eq_true rfl)
  rw [lg_entry_eq]
  generalize (lg_sl ([.ref (mm 0), .int r, .int d]) ++ List.replicate (9 - (lg_sl ([.ref (mm 0), .int r, .int d])).length) Slot.unset).toArray = ls at hl ⊢
  replace hl : lv_has ls 9 [(0, .ref (mm 0)), (1, .int r), (2, .int d)] := hl
  refine lv_iload_n hx hb dX8_readLayer_0 rfl (lv_at hl 2 rfl) ?_
  refine lv_aload_n hx hb dX8_readLayer_1 rfl (lv_at hl 0 rfl) ?_
  refine va_get (D := D) (ci := 7) (v := .ref (mm 5)) (C := RX8) (T := TX8) (N := 33) hx hb hts inlX8 hown hK hP 0 rfl rfl 5 (by decide) (hts _ mwn_95) (fun _ h9 => h9) rfl dX8_readLayer_2 ?_
  refine lv_iconst (v := 2) hx hb dX8_readLayer_5 (by decide) ?_
  refine va_iald hx hb hK hP 2 0 rfl rfl (vp_in_c (by decide)) dX8_readLayer_6 ?_
  refine lv_topi (fun z_1 ez_1 => ?_)
  have hdz : z_1.toInt = (ef 2).toInt := by rw [ez_1]; rfl
  have hdd := RoL_d w_rl (by omega)
  refine lv_icmp_ne (tgt := 15) hx hb dX8_readLayer_7 (by decide) (fun c_2 => ?_) (fun c_2 => ?_)
  · have c_2 : d.toInt ≠ z_1.toInt := ti_ne c_2
    have hd5 : d.toInt ≤ 5 := by omega
    refine lv_aload_n hx hb dX8_readLayer_15 rfl (lv_at hl 0 rfl) ?_
    refine va_get (D := D) (ci := 7) (v := .int (mf 12)) (C := RX8) (T := TX8) (N := 33) hx hb hts inlX8 hown hK hP 0 rfl rfl 12 (by decide) (hts _ mwn_289) (fun _ h9 => h9) rfl dX8_readLayer_16 ?_
    refine lv_if_eq (tgt := 23) hx hb dX8_readLayer_19 (by decide) (fun c_3 => ?_) (fun c_3 => ?_)
    · have c_3 : (mf 12).toInt = 0 := ti_eq c_3
      have qc_3 : (mf 12) = 0 := ti_of (show (mf 12).toInt = 0 from by omega)
      refine W_join (σ := Int32) (pcJ := 36) (fun xx H locs ls => (0 ≤ xx.toInt ∧ xx.toInt ≤ 1) ∧ (True) ∧ va_P D vwCl [((mm 0), .inr (7, [.int (mf 0), .ref (mm 1), .ref (mm 2), .ref (mm 3), .ref (mm 4), .ref (mm 5), .int (mf 6), .int (mf 7), .int (mf 8), .int (mf 9), .int (mf 10), .int (mf 11), .int (mf 12), .int (mf 13), .int (mf 14), .int (mf 15), .int (mf 16), .ref (mm 6), .int (mf 18), .ref (mm 7), .ref (mm 8), .ref (mm 9), .int (mf 22), .ref (mm 10), .ref (mm 11), .int (mf 25), .int (mf 26), .ref (mm 12), .ref (mm 13), .int (mf 29), .ref (mm 14), .ref (mm 15), .ref (mm 16)])), ((mm 4), .inl (k 0, 900, .inl tf)), ((mm 5), .inl (k 0, 409, .inl ef))] H ∧ va_D A [((mm 0), .inr (7, [.int (mf 0), .ref (mm 1), .ref (mm 2), .ref (mm 3), .ref (mm 4), .ref (mm 5), .int (mf 6), .int (mf 7), .int (mf 8), .int (mf 9), .int (mf 10), .int (mf 11), .int (mf 12), .int (mf 13), .int (mf 14), .int (mf 15), .int (mf 16), .ref (mm 6), .int (mf 18), .ref (mm 7), .ref (mm 8), .ref (mm 9), .int (mf 22), .ref (mm 10), .ref (mm 11), .int (mf 25), .int (mf 26), .ref (mm 12), .ref (mm 13), .int (mf 29), .ref (mm 14), .ref (mm 15), .ref (mm 16)])), ((mm 4), .inl (k 0, 900, .inl tf)), ((mm 5), .inl (k 0, 409, .inl ef))] ∧ va_S A s.heap H locs ∧ lv_has ls 9 [(0, .ref (mm 0)), (1, .int r), (2, .int d)]) (fun xx => [.int xx]) ?_ ?_
      · intro xx H locs ls hI
        obtain ⟨i_4, rfl⟩ : ∃ z, z = xx := ⟨_, rfl⟩
        obtain ⟨h_5, h_6, hP, hD, hS, hl⟩ := hI
        replace h_5 : 0 ≤ i_4.toInt ∧ i_4.toInt ≤ 1 := h_5
        replace h_6 : True := h_6
        replace hP : va_P D vwCl [((mm 0), .inr (7, [.int (mf 0), .ref (mm 1), .ref (mm 2), .ref (mm 3), .ref (mm 4), .ref (mm 5), .int (mf 6), .int (mf 7), .int (mf 8), .int (mf 9), .int (mf 10), .int (mf 11), .int (mf 12), .int (mf 13), .int (mf 14), .int (mf 15), .int (mf 16), .ref (mm 6), .int (mf 18), .ref (mm 7), .ref (mm 8), .ref (mm 9), .int (mf 22), .ref (mm 10), .ref (mm 11), .int (mf 25), .int (mf 26), .ref (mm 12), .ref (mm 13), .int (mf 29), .ref (mm 14), .ref (mm 15), .ref (mm 16)])), ((mm 4), .inl (k 0, 900, .inl tf)), ((mm 5), .inl (k 0, 409, .inl ef))] H := hP
        replace hD : va_D A [((mm 0), .inr (7, [.int (mf 0), .ref (mm 1), .ref (mm 2), .ref (mm 3), .ref (mm 4), .ref (mm 5), .int (mf 6), .int (mf 7), .int (mf 8), .int (mf 9), .int (mf 10), .int (mf 11), .int (mf 12), .int (mf 13), .int (mf 14), .int (mf 15), .int (mf 16), .ref (mm 6), .int (mf 18), .ref (mm 7), .ref (mm 8), .ref (mm 9), .int (mf 22), .ref (mm 10), .ref (mm 11), .int (mf 25), .int (mf 26), .ref (mm 12), .ref (mm 13), .int (mf 29), .ref (mm 14), .ref (mm 15), .ref (mm 16)])), ((mm 4), .inl (k 0, 900, .inl tf)), ((mm 5), .inl (k 0, 409, .inl ef))] := hD
        replace hl : lv_has ls 9 [(0, .ref (mm 0)), (1, .int r), (2, .int d)] := hl
        clear w_tc
        refine lv_istore_n (lv' := [(3, .int i_4), (0, .ref (mm 0)), (1, .int r), (2, .int d)]) hx hb dX8_readLayer_36 rfl hl (by decide) rfl (fun ls hl => ?_)
        refine lv_aload_n hx hb dX8_readLayer_37 rfl (lv_at hl 1 rfl) ?_
        refine kV_uvs (q0 := 0) (As := []) (rest := []) (wr := [((mm 5), .inl (k 0, 409, .inl ef))]) ⟨hx, hb, hml, hown, hts⟩ (s_M_nextToken l D k ak av _ mf tf _ (show 0 ≤ (mf 8).toInt ∧ (mf 8).toInt ≤ 900 from ⟨by omega, by omega⟩) (show 0 ≤ (mf 9).toInt ∧ (mf 9).toInt ≤ 900 from ⟨by omega, by omega⟩) (show (mf 8).toInt ≤ (mf 9).toInt from by omega)) (gV mwn_297 mwn_298 mwn_299 mwn_5 mwn_300) hdn_yX8_nextToken rfl rfl ⟨Nat.le_of_ble_eq_true rfl, Nat.le_of_ble_eq_true rfl⟩ hK hN0 hW0 hS hP hD hS hA [0, 1] [2] rfl rfl (by decide) (by decide) (by decide) rfl rfl rfl rfl hl.1 rfl (Nat.le_of_ble_eq_true rfl) dX8_readLayer_38 ⟨Nat.le_of_ble_eq_true rfl, Nat.le_of_ble_eq_true rfl⟩ (fun u_8 H locs hw hP hD hS => ?_)
        obtain ⟨v_9, v_10, v_11, v_12⟩ := u_8
        obtain ⟨h_13, h_14, h_15, h_16, h_17, h_18⟩ := hw
        replace h_13 : 0 ≤ v_9.toInt ∧ v_9.toInt ≤ 900 := h_13
        replace h_14 : 0 ≤ v_10.toInt ∧ v_10.toInt ≤ 900 := h_14
        replace h_15 : v_9.toInt ≤ v_10.toInt := h_15
        replace h_16 : v_10.toInt ≤ (mf 9).toInt := h_16
        replace h_17 : v_11.toInt = 13 ∨ v_9.toInt < v_10.toInt := h_17
        replace h_18 : (mf 8).toInt ≤ v_9.toInt := h_18
        replace hP : va_P D vwCl [((mm 5), .inl (k 0, 409, .inl ef)), ((mm 0), .inr (7, [.int (mf 0), .ref (mm 1), .ref (mm 2), .ref (mm 3), .ref (mm 4), .ref (mm 5), .int (mf 6), .int v_9, .int v_10, .int (mf 9), .int v_11, .int v_12, .int (mf 12), .int (mf 13), .int (mf 14), .int (mf 15), .int (mf 16), .ref (mm 6), .int (mf 18), .ref (mm 7), .ref (mm 8), .ref (mm 9), .int (mf 22), .ref (mm 10), .ref (mm 11), .int (mf 25), .int (mf 26), .ref (mm 12), .ref (mm 13), .int (mf 29), .ref (mm 14), .ref (mm 15), .ref (mm 16)])), ((mm 4), .inl (k 0, 900, .inl tf))] H := hP
        replace hD : va_D A [((mm 5), .inl (k 0, 409, .inl ef)), ((mm 0), .inr (7, [.int (mf 0), .ref (mm 1), .ref (mm 2), .ref (mm 3), .ref (mm 4), .ref (mm 5), .int (mf 6), .int v_9, .int v_10, .int (mf 9), .int v_11, .int v_12, .int (mf 12), .int (mf 13), .int (mf 14), .int (mf 15), .int (mf 16), .ref (mm 6), .int (mf 18), .ref (mm 7), .ref (mm 8), .ref (mm 9), .int (mf 22), .ref (mm 10), .ref (mm 11), .int (mf 25), .int (mf 26), .ref (mm 12), .ref (mm 13), .int (mf 29), .ref (mm 14), .ref (mm 15), .ref (mm 16)])), ((mm 4), .inl (k 0, 900, .inl tf))] := hD
        refine lv_aload_n hx hb dX8_readLayer_41 rfl (lv_at hl 1 rfl) ?_
        refine lv_iconst (v := 0) hx hb dX8_readLayer_42 (by decide) ?_
        refine lv_bipush (v := 99) hx hb dX8_readLayer_43 (by decide) ?_
        refine kV_uis (q0 := 0) (As := [.int 0, .int 99]) (rest := []) (wr := [((mm 5), .inl (k 0, 409, .inl ef))]) ⟨hx, hb, hml, hown, hts⟩ (s_M_takes l D k ak av _ (va_seli [(mf 0), 0, 0, 0, 0, 0, (mf 6), v_9, v_10, (mf 9), v_11, v_12, (mf 12), (mf 13), (mf 14), (mf 15), (mf 16), 0, (mf 18), 0, 0, 0, (mf 22), 0, 0, (mf 25), (mf 26), 0, 0, (mf 29)]) tf 0 99 _ (show 0 ≤ v_9.toInt ∧ v_9.toInt ≤ 900 from ⟨by omega, by omega⟩) (show 0 ≤ v_10.toInt ∧ v_10.toInt ≤ 900 from ⟨by omega, by omega⟩) (show 0 ≤ (mf 9).toInt ∧ (mf 9).toInt ≤ 900 from ⟨by omega, by omega⟩) (show v_9.toInt ≤ v_10.toInt from by omega) (show v_10.toInt ≤ (mf 9).toInt from by omega) (show v_11.toInt = 13 ∨ v_9.toInt < v_10.toInt from by omega)) (gV mwn_339 mwn_340 mwn_341 mwn_5 mwn_342) hdn_yX8_takes rfl rfl ⟨Nat.le_of_ble_eq_true rfl, Nat.le_of_ble_eq_true rfl⟩ hK hN0 hW0 hS hP hD hS hA [1, 2] [0] rfl rfl (by decide) (by decide) (by decide) rfl rfl rfl rfl hl.1 rfl (Nat.le_of_ble_eq_true rfl) dX8_readLayer_45 ⟨Nat.le_of_ble_eq_true rfl, Nat.le_of_ble_eq_true rfl⟩ (fun r_19 u_20 H locs hw hP hD hS => ?_)
        obtain ⟨v_21, v_22, v_23, v_24, v_25, v_26⟩ := u_20
        obtain ⟨hr_19, h_27, h_28, h_29, h_30, h_31, h_32, h_33⟩ := hw
        replace h_27 : 0 ≤ v_21.toInt ∧ v_21.toInt ≤ 900 := h_27
        replace h_28 : 0 ≤ v_22.toInt ∧ v_22.toInt ≤ 900 := h_28
        replace h_29 : v_21.toInt ≤ v_22.toInt := h_29
        replace h_30 : v_22.toInt ≤ (mf 9).toInt := h_30
        replace h_31 : v_23.toInt = 13 ∨ v_21.toInt < v_22.toInt := h_31
        replace h_32 : v_9.toInt ≤ v_21.toInt := h_32
        replace h_33 : v_25.toInt ≠ 0 ∨ (mf 12).toInt = 0 := h_33
        replace hP : va_P D vwCl [((mm 5), .inl (k 0, 409, .inl ef)), ((mm 0), .inr (7, [.int (mf 0), .ref (mm 1), .ref (mm 2), .ref (mm 3), .ref (mm 4), .ref (mm 5), .int (mf 6), .int v_21, .int v_22, .int (mf 9), .int v_23, .int v_24, .int v_25, .int v_26, .int (mf 14), .int (mf 15), .int (mf 16), .ref (mm 6), .int (mf 18), .ref (mm 7), .ref (mm 8), .ref (mm 9), .int (mf 22), .ref (mm 10), .ref (mm 11), .int (mf 25), .int (mf 26), .ref (mm 12), .ref (mm 13), .int (mf 29), .ref (mm 14), .ref (mm 15), .ref (mm 16)])), ((mm 4), .inl (k 0, 900, .inl tf))] H := hP
        replace hD : va_D A [((mm 5), .inl (k 0, 409, .inl ef)), ((mm 0), .inr (7, [.int (mf 0), .ref (mm 1), .ref (mm 2), .ref (mm 3), .ref (mm 4), .ref (mm 5), .int (mf 6), .int v_21, .int v_22, .int (mf 9), .int v_23, .int v_24, .int v_25, .int v_26, .int (mf 14), .int (mf 15), .int (mf 16), .ref (mm 6), .int (mf 18), .ref (mm 7), .ref (mm 8), .ref (mm 9), .int (mf 22), .ref (mm 10), .ref (mm 11), .int (mf 25), .int (mf 26), .ref (mm 12), .ref (mm 13), .int (mf 29), .ref (mm 14), .ref (mm 15), .ref (mm 16)])), ((mm 4), .inl (k 0, 900, .inl tf))] := hD
        replace hr_19 : v_25.toInt ≠ 0 ∨ (0 ≤ r_19.toInt ∧ r_19.toInt ≤ 99) := hr_19
        refine lv_istore (lv' := [(4, .int r_19), (3, .int i_4), (0, .ref (mm 0)), (1, .int r), (2, .int d)]) hx hb dX8_readLayer_48 hl (by decide) rfl (fun ls hl => ?_)
        refine W_join (σ := Int32 × Int32 × Int32 × Int32 × Int32) (pcJ := 63) (fun xx H locs ls => (0 ≤ xx.1.toInt ∧ xx.1.toInt ≤ 1) ∧ (0 ≤ xx.2.1.toInt ∧ xx.2.1.toInt ≤ 900) ∧ (0 ≤ xx.2.2.1.toInt ∧ xx.2.2.1.toInt ≤ 900) ∧ (xx.2.1.toInt ≤ xx.2.2.1.toInt) ∧ (xx.2.2.1.toInt ≤ (mf 9).toInt) ∧ (xx.2.2.2.1.toInt = 13 ∨ xx.2.1.toInt < xx.2.2.1.toInt) ∧ ((mf 7).toInt ≤ xx.2.1.toInt) ∧ (True) ∧ va_P D vwCl [((mm 5), .inl (k 0, 409, .inl ef)), ((mm 0), .inr (7, [.int (mf 0), .ref (mm 1), .ref (mm 2), .ref (mm 3), .ref (mm 4), .ref (mm 5), .int (mf 6), .int xx.2.1, .int xx.2.2.1, .int (mf 9), .int xx.2.2.2.1, .int xx.2.2.2.2, .int v_25, .int v_26, .int (mf 14), .int (mf 15), .int (mf 16), .ref (mm 6), .int (mf 18), .ref (mm 7), .ref (mm 8), .ref (mm 9), .int (mf 22), .ref (mm 10), .ref (mm 11), .int (mf 25), .int (mf 26), .ref (mm 12), .ref (mm 13), .int (mf 29), .ref (mm 14), .ref (mm 15), .ref (mm 16)])), ((mm 4), .inl (k 0, 900, .inl tf))] H ∧ va_D A [((mm 5), .inl (k 0, 409, .inl ef)), ((mm 0), .inr (7, [.int (mf 0), .ref (mm 1), .ref (mm 2), .ref (mm 3), .ref (mm 4), .ref (mm 5), .int (mf 6), .int xx.2.1, .int xx.2.2.1, .int (mf 9), .int xx.2.2.2.1, .int xx.2.2.2.2, .int v_25, .int v_26, .int (mf 14), .int (mf 15), .int (mf 16), .ref (mm 6), .int (mf 18), .ref (mm 7), .ref (mm 8), .ref (mm 9), .int (mf 22), .ref (mm 10), .ref (mm 11), .int (mf 25), .int (mf 26), .ref (mm 12), .ref (mm 13), .int (mf 29), .ref (mm 14), .ref (mm 15), .ref (mm 16)])), ((mm 4), .inl (k 0, 900, .inl tf))] ∧ va_S A s.heap H locs ∧ lv_has ls 9 [(4, .int r_19), (3, .int i_4), (0, .ref (mm 0)), (1, .int r), (2, .int d)]) (fun xx => [.int xx.1]) ?_ ?_
        · intro xx H locs ls hI
          obtain ⟨i_34, y_35, y_36, y_37, y_38⟩ := xx
          obtain ⟨h_39, h_40, h_41, h_42, h_43, h_44, h_45, h_46, hP, hD, hS, hl⟩ := hI
          replace h_39 : 0 ≤ i_34.toInt ∧ i_34.toInt ≤ 1 := h_39
          replace h_40 : 0 ≤ y_35.toInt ∧ y_35.toInt ≤ 900 := h_40
          replace h_41 : 0 ≤ y_36.toInt ∧ y_36.toInt ≤ 900 := h_41
          replace h_42 : y_35.toInt ≤ y_36.toInt := h_42
          replace h_43 : y_36.toInt ≤ (mf 9).toInt := h_43
          replace h_44 : y_37.toInt = 13 ∨ y_35.toInt < y_36.toInt := h_44
          replace h_45 : (mf 7).toInt ≤ y_35.toInt := h_45
          replace h_46 : True := h_46
          replace hP : va_P D vwCl [((mm 5), .inl (k 0, 409, .inl ef)), ((mm 0), .inr (7, [.int (mf 0), .ref (mm 1), .ref (mm 2), .ref (mm 3), .ref (mm 4), .ref (mm 5), .int (mf 6), .int y_35, .int y_36, .int (mf 9), .int y_37, .int y_38, .int v_25, .int v_26, .int (mf 14), .int (mf 15), .int (mf 16), .ref (mm 6), .int (mf 18), .ref (mm 7), .ref (mm 8), .ref (mm 9), .int (mf 22), .ref (mm 10), .ref (mm 11), .int (mf 25), .int (mf 26), .ref (mm 12), .ref (mm 13), .int (mf 29), .ref (mm 14), .ref (mm 15), .ref (mm 16)])), ((mm 4), .inl (k 0, 900, .inl tf))] H := hP
          replace hD : va_D A [((mm 5), .inl (k 0, 409, .inl ef)), ((mm 0), .inr (7, [.int (mf 0), .ref (mm 1), .ref (mm 2), .ref (mm 3), .ref (mm 4), .ref (mm 5), .int (mf 6), .int y_35, .int y_36, .int (mf 9), .int y_37, .int y_38, .int v_25, .int v_26, .int (mf 14), .int (mf 15), .int (mf 16), .ref (mm 6), .int (mf 18), .ref (mm 7), .ref (mm 8), .ref (mm 9), .int (mf 22), .ref (mm 10), .ref (mm 11), .int (mf 25), .int (mf 26), .ref (mm 12), .ref (mm 13), .int (mf 29), .ref (mm 14), .ref (mm 15), .ref (mm 16)])), ((mm 4), .inl (k 0, 900, .inl tf))] := hD
          replace hl : lv_has ls 9 [(4, .int r_19), (3, .int i_4), (0, .ref (mm 0)), (1, .int r), (2, .int d)] := hl
          clear h_17 h_31 h_33 hr_19
          refine lv_istore (lv' := [(5, .int i_34), (4, .int r_19), (3, .int i_4), (0, .ref (mm 0)), (1, .int r), (2, .int d)]) hx hb dX8_readLayer_63 hl (by decide) rfl (fun ls hl => ?_)
          refine W_join (σ := Int32 × Int32 × Int32 × Int32 × Int32 × Int32 × Int32) (pcJ := 84) (fun xx H locs ls => (0 ≤ xx.2.1.toInt ∧ xx.2.1.toInt ≤ 900) ∧ (0 ≤ xx.2.2.1.toInt ∧ xx.2.2.1.toInt ≤ 900) ∧ (xx.2.1.toInt ≤ xx.2.2.1.toInt) ∧ (xx.2.2.1.toInt ≤ (mf 9).toInt) ∧ (xx.2.2.2.1.toInt = 13 ∨ xx.2.1.toInt < xx.2.2.1.toInt) ∧ ((mf 7).toInt ≤ xx.2.1.toInt) ∧ (True) ∧ va_P D vwCl [((mm 5), .inl (k 0, 409, .inl ef)), ((mm 0), .inr (7, [.int (mf 0), .ref (mm 1), .ref (mm 2), .ref (mm 3), .ref (mm 4), .ref (mm 5), .int (mf 6), .int xx.2.1, .int xx.2.2.1, .int (mf 9), .int xx.2.2.2.1, .int xx.2.2.2.2.1, .int xx.2.2.2.2.2.1, .int xx.2.2.2.2.2.2, .int (mf 14), .int (mf 15), .int (mf 16), .ref (mm 6), .int (mf 18), .ref (mm 7), .ref (mm 8), .ref (mm 9), .int (mf 22), .ref (mm 10), .ref (mm 11), .int (mf 25), .int (mf 26), .ref (mm 12), .ref (mm 13), .int (mf 29), .ref (mm 14), .ref (mm 15), .ref (mm 16)])), ((mm 4), .inl (k 0, 900, .inl tf))] H ∧ va_D A [((mm 5), .inl (k 0, 409, .inl ef)), ((mm 0), .inr (7, [.int (mf 0), .ref (mm 1), .ref (mm 2), .ref (mm 3), .ref (mm 4), .ref (mm 5), .int (mf 6), .int xx.2.1, .int xx.2.2.1, .int (mf 9), .int xx.2.2.2.1, .int xx.2.2.2.2.1, .int xx.2.2.2.2.2.1, .int xx.2.2.2.2.2.2, .int (mf 14), .int (mf 15), .int (mf 16), .ref (mm 6), .int (mf 18), .ref (mm 7), .ref (mm 8), .ref (mm 9), .int (mf 22), .ref (mm 10), .ref (mm 11), .int (mf 25), .int (mf 26), .ref (mm 12), .ref (mm 13), .int (mf 29), .ref (mm 14), .ref (mm 15), .ref (mm 16)])), ((mm 4), .inl (k 0, 900, .inl tf))] ∧ va_S A s.heap H locs ∧ lv_has ls 9 [(5, .int i_34), (4, .int r_19), (3, .int i_4), (0, .ref (mm 0)), (1, .int r), (2, .int d)]) (fun xx => [.int xx.1]) ?_ ?_
          · intro xx H locs ls hI
            obtain ⟨i_47, y_48, y_49, y_50, y_51, y_52, y_53⟩ := xx
            obtain ⟨h_54, h_55, h_56, h_57, h_58, h_59, h_60, hP, hD, hS, hl⟩ := hI
            replace h_54 : 0 ≤ y_48.toInt ∧ y_48.toInt ≤ 900 := h_54
            replace h_55 : 0 ≤ y_49.toInt ∧ y_49.toInt ≤ 900 := h_55
            replace h_56 : y_48.toInt ≤ y_49.toInt := h_56
            replace h_57 : y_49.toInt ≤ (mf 9).toInt := h_57
            replace h_58 : y_50.toInt = 13 ∨ y_48.toInt < y_49.toInt := h_58
            replace h_59 : (mf 7).toInt ≤ y_48.toInt := h_59
            replace h_60 : True := h_60
            replace hP : va_P D vwCl [((mm 5), .inl (k 0, 409, .inl ef)), ((mm 0), .inr (7, [.int (mf 0), .ref (mm 1), .ref (mm 2), .ref (mm 3), .ref (mm 4), .ref (mm 5), .int (mf 6), .int y_48, .int y_49, .int (mf 9), .int y_50, .int y_51, .int y_52, .int y_53, .int (mf 14), .int (mf 15), .int (mf 16), .ref (mm 6), .int (mf 18), .ref (mm 7), .ref (mm 8), .ref (mm 9), .int (mf 22), .ref (mm 10), .ref (mm 11), .int (mf 25), .int (mf 26), .ref (mm 12), .ref (mm 13), .int (mf 29), .ref (mm 14), .ref (mm 15), .ref (mm 16)])), ((mm 4), .inl (k 0, 900, .inl tf))] H := hP
            replace hD : va_D A [((mm 5), .inl (k 0, 409, .inl ef)), ((mm 0), .inr (7, [.int (mf 0), .ref (mm 1), .ref (mm 2), .ref (mm 3), .ref (mm 4), .ref (mm 5), .int (mf 6), .int y_48, .int y_49, .int (mf 9), .int y_50, .int y_51, .int y_52, .int y_53, .int (mf 14), .int (mf 15), .int (mf 16), .ref (mm 6), .int (mf 18), .ref (mm 7), .ref (mm 8), .ref (mm 9), .int (mf 22), .ref (mm 10), .ref (mm 11), .int (mf 25), .int (mf 26), .ref (mm 12), .ref (mm 13), .int (mf 29), .ref (mm 14), .ref (mm 15), .ref (mm 16)])), ((mm 4), .inl (k 0, 900, .inl tf))] := hD
            replace hl : lv_has ls 9 [(5, .int i_34), (4, .int r_19), (3, .int i_4), (0, .ref (mm 0)), (1, .int r), (2, .int d)] := hl
            clear h_44
            refine lv_istore (lv' := [(6, .int i_47), (5, .int i_34), (4, .int r_19), (3, .int i_4), (0, .ref (mm 0)), (1, .int r), (2, .int d)]) hx hb dX8_readLayer_84 hl (by decide) rfl (fun ls hl => ?_)
            refine W_join (σ := Int32 × Int32 × Int32 × Int32 × Int32) (pcJ := 99) (fun xx H locs ls => (0 ≤ xx.1.toInt ∧ xx.1.toInt ≤ 1) ∧ (0 ≤ xx.2.1.toInt ∧ xx.2.1.toInt ≤ 900) ∧ (0 ≤ xx.2.2.1.toInt ∧ xx.2.2.1.toInt ≤ 900) ∧ (xx.2.1.toInt ≤ xx.2.2.1.toInt) ∧ (xx.2.2.1.toInt ≤ (mf 9).toInt) ∧ (xx.2.2.2.1.toInt = 13 ∨ xx.2.1.toInt < xx.2.2.1.toInt) ∧ ((mf 7).toInt ≤ xx.2.1.toInt) ∧ (True) ∧ va_P D vwCl [((mm 5), .inl (k 0, 409, .inl ef)), ((mm 0), .inr (7, [.int (mf 0), .ref (mm 1), .ref (mm 2), .ref (mm 3), .ref (mm 4), .ref (mm 5), .int (mf 6), .int xx.2.1, .int xx.2.2.1, .int (mf 9), .int xx.2.2.2.1, .int xx.2.2.2.2, .int y_52, .int y_53, .int (mf 14), .int (mf 15), .int (mf 16), .ref (mm 6), .int (mf 18), .ref (mm 7), .ref (mm 8), .ref (mm 9), .int (mf 22), .ref (mm 10), .ref (mm 11), .int (mf 25), .int (mf 26), .ref (mm 12), .ref (mm 13), .int (mf 29), .ref (mm 14), .ref (mm 15), .ref (mm 16)])), ((mm 4), .inl (k 0, 900, .inl tf))] H ∧ va_D A [((mm 5), .inl (k 0, 409, .inl ef)), ((mm 0), .inr (7, [.int (mf 0), .ref (mm 1), .ref (mm 2), .ref (mm 3), .ref (mm 4), .ref (mm 5), .int (mf 6), .int xx.2.1, .int xx.2.2.1, .int (mf 9), .int xx.2.2.2.1, .int xx.2.2.2.2, .int y_52, .int y_53, .int (mf 14), .int (mf 15), .int (mf 16), .ref (mm 6), .int (mf 18), .ref (mm 7), .ref (mm 8), .ref (mm 9), .int (mf 22), .ref (mm 10), .ref (mm 11), .int (mf 25), .int (mf 26), .ref (mm 12), .ref (mm 13), .int (mf 29), .ref (mm 14), .ref (mm 15), .ref (mm 16)])), ((mm 4), .inl (k 0, 900, .inl tf))] ∧ va_S A s.heap H locs ∧ lv_has ls 9 [(6, .int i_47), (5, .int i_34), (4, .int r_19), (3, .int i_4), (0, .ref (mm 0)), (1, .int r), (2, .int d)]) (fun xx => [.int xx.1]) ?_ ?_
            · intro xx H locs ls hI
              obtain ⟨i_61, y_62, y_63, y_64, y_65⟩ := xx
              obtain ⟨h_66, h_67, h_68, h_69, h_70, h_71, h_72, h_73, hP, hD, hS, hl⟩ := hI
              replace h_66 : 0 ≤ i_61.toInt ∧ i_61.toInt ≤ 1 := h_66
              replace h_67 : 0 ≤ y_62.toInt ∧ y_62.toInt ≤ 900 := h_67
              replace h_68 : 0 ≤ y_63.toInt ∧ y_63.toInt ≤ 900 := h_68
              replace h_69 : y_62.toInt ≤ y_63.toInt := h_69
              replace h_70 : y_63.toInt ≤ (mf 9).toInt := h_70
              replace h_71 : y_64.toInt = 13 ∨ y_62.toInt < y_63.toInt := h_71
              replace h_72 : (mf 7).toInt ≤ y_62.toInt := h_72
              replace h_73 : True := h_73
              replace hP : va_P D vwCl [((mm 5), .inl (k 0, 409, .inl ef)), ((mm 0), .inr (7, [.int (mf 0), .ref (mm 1), .ref (mm 2), .ref (mm 3), .ref (mm 4), .ref (mm 5), .int (mf 6), .int y_62, .int y_63, .int (mf 9), .int y_64, .int y_65, .int y_52, .int y_53, .int (mf 14), .int (mf 15), .int (mf 16), .ref (mm 6), .int (mf 18), .ref (mm 7), .ref (mm 8), .ref (mm 9), .int (mf 22), .ref (mm 10), .ref (mm 11), .int (mf 25), .int (mf 26), .ref (mm 12), .ref (mm 13), .int (mf 29), .ref (mm 14), .ref (mm 15), .ref (mm 16)])), ((mm 4), .inl (k 0, 900, .inl tf))] H := hP
              replace hD : va_D A [((mm 5), .inl (k 0, 409, .inl ef)), ((mm 0), .inr (7, [.int (mf 0), .ref (mm 1), .ref (mm 2), .ref (mm 3), .ref (mm 4), .ref (mm 5), .int (mf 6), .int y_62, .int y_63, .int (mf 9), .int y_64, .int y_65, .int y_52, .int y_53, .int (mf 14), .int (mf 15), .int (mf 16), .ref (mm 6), .int (mf 18), .ref (mm 7), .ref (mm 8), .ref (mm 9), .int (mf 22), .ref (mm 10), .ref (mm 11), .int (mf 25), .int (mf 26), .ref (mm 12), .ref (mm 13), .int (mf 29), .ref (mm 14), .ref (mm 15), .ref (mm 16)])), ((mm 4), .inl (k 0, 900, .inl tf))] := hD
              replace hl : lv_has ls 9 [(6, .int i_47), (5, .int i_34), (4, .int r_19), (3, .int i_4), (0, .ref (mm 0)), (1, .int r), (2, .int d)] := hl
              clear h_58
              refine lv_istore (lv' := [(7, .int i_61), (6, .int i_47), (5, .int i_34), (4, .int r_19), (3, .int i_4), (0, .ref (mm 0)), (1, .int r), (2, .int d)]) hx hb dX8_readLayer_99 hl (by decide) rfl (fun ls hl => ?_)
              refine lv_aload_n hx hb dX8_readLayer_101 rfl (lv_at hl 5 rfl) ?_
              refine va_get (D := D) (ci := 7) (v := .int y_52) (C := RX8) (T := TX8) (N := 33) hx hb hts inlX8 hown hK hP 1 rfl rfl 12 (by decide) (hts _ mwn_289) (fun _ h9 => h9) rfl dX8_readLayer_102 ?_
              refine lv_if_eq (tgt := 109) hx hb dX8_readLayer_105 (by decide) (fun c_74 => ?_) (fun c_74 => ?_)
              · have c_74 : y_52.toInt = 0 := ti_eq c_74
                have qc_74 : y_52 = 0 := ti_of (show y_52.toInt = 0 from by omega)
                refine lv_bipush (v := 6) hx hb dX8_readLayer_109 (by decide) ?_
                refine lv_iload_n hx hb dX8_readLayer_111 rfl (lv_at hl 6 rfl) ?_
                refine lv_imul hx hb dX8_readLayer_112 ?_
                refine lv_topi (fun z_75 ez_75 => ?_)
                have tz_75 : z_75.toInt = 6 * r.toInt := by rw [ez_75]; exact ti_mulcl (by decide) (by omega) (by omega)
                refine lv_iload_n hx hb dX8_readLayer_113 rfl (lv_at hl 7 rfl) ?_
                refine lv_iadd hx hb dX8_readLayer_114 ?_
                refine lv_topi (fun z_76 ez_76 => ?_)
                have tz_76 : z_76.toInt = z_75.toInt + d.toInt := by rw [ez_76]; exact ti_add (by omega) (by omega)
                refine lv_istore (lv' := [(8, .int z_76), (7, .int i_61), (6, .int i_47), (5, .int i_34), (4, .int r_19), (3, .int i_4), (0, .ref (mm 0)), (1, .int r), (2, .int d)]) hx hb dX8_readLayer_115 hl (by decide) rfl (fun ls hl => ?_)
                refine lv_aload_n hx hb dX8_readLayer_117 rfl (lv_at hl 6 rfl) ?_
                refine va_get (D := D) (ci := 7) (v := .ref (mm 5)) (C := RX8) (T := TX8) (N := 33) hx hb hts inlX8 hown hK hP 1 rfl rfl 5 (by decide) (hts _ mwn_95) (fun _ h9 => h9) rfl dX8_readLayer_118 ?_
                refine lv_bipush (v := 49) hx hb dX8_readLayer_121 (by decide) ?_
                refine lv_iload hx hb dX8_readLayer_123 (lv_at hl 0 rfl) ?_
                refine lv_iadd hx hb dX8_readLayer_125 ?_
                refine lv_topi (fun z_77 ez_77 => ?_)
                have tz_77 : z_77.toInt = 49 + z_76.toInt := by rw [ez_77]; exact ti_addcl (by decide) (by omega) (by omega)
                refine lv_iload hx hb dX8_readLayer_126 (lv_at hl 4 rfl) ?_
                refine va_iast hx hb hK hP hD hS 0 0 rfl rfl (vp_in_o (by omega) (by omega)) dX8_readLayer_128 (fun H locs hP hD hS => ?_)
                replace hP : va_P D vwCl [((mm 5), .inl (k 0, 409, .inl (upd ef z_77.toNatClampNeg r_19))), ((mm 0), .inr (7, [.int (mf 0), .ref (mm 1), .ref (mm 2), .ref (mm 3), .ref (mm 4), .ref (mm 5), .int (mf 6), .int y_62, .int y_63, .int (mf 9), .int y_64, .int y_65, .int y_52, .int y_53, .int (mf 14), .int (mf 15), .int (mf 16), .ref (mm 6), .int (mf 18), .ref (mm 7), .ref (mm 8), .ref (mm 9), .int (mf 22), .ref (mm 10), .ref (mm 11), .int (mf 25), .int (mf 26), .ref (mm 12), .ref (mm 13), .int (mf 29), .ref (mm 14), .ref (mm 15), .ref (mm 16)])), ((mm 4), .inl (k 0, 900, .inl tf))] H := hP
                replace hD : va_D A [((mm 5), .inl (k 0, 409, .inl (upd ef z_77.toNatClampNeg r_19))), ((mm 0), .inr (7, [.int (mf 0), .ref (mm 1), .ref (mm 2), .ref (mm 3), .ref (mm 4), .ref (mm 5), .int (mf 6), .int y_62, .int y_63, .int (mf 9), .int y_64, .int y_65, .int y_52, .int y_53, .int (mf 14), .int (mf 15), .int (mf 16), .ref (mm 6), .int (mf 18), .ref (mm 7), .ref (mm 8), .ref (mm 9), .int (mf 22), .ref (mm 10), .ref (mm 11), .int (mf 25), .int (mf 26), .ref (mm 12), .ref (mm 13), .int (mf 29), .ref (mm 14), .ref (mm 15), .ref (mm 16)])), ((mm 4), .inl (k 0, 900, .inl tf))] := hD
                generalize ef_78 : (upd ef z_77.toNatClampNeg r_19) = f_78 at hP hD
                have hK_79 : RoL y_52 r d f_78 := by rw [← ef_78]; exact RoL_put (show RoL y_52 r d ef from (by first | exact Or.inl (by omega) | exact RoL_w w_rl (by omega) | (rcases (show y_52.toInt ≠ 0 ∨ (mf 12).toInt = 0 from by omega) with q | q <;> first | exact Or.inl q | exact RoL_w w_rl q))) (by omega) (by omega) (by omega) (by omega) (by first | omega | exact Or.inr (Or.inr (by decide)))
                have k2_80 : f_78 2 = ef 2 := by rw [← ef_78, pk_un (by rw [ti_cl]; omega)]
                refine lv_aload_n hx hb dX8_readLayer_129 rfl (lv_at hl 6 rfl) ?_
                refine va_get (D := D) (ci := 7) (v := .ref (mm 5)) (C := RX8) (T := TX8) (N := 33) hx hb hts inlX8 hown hK hP 1 rfl rfl 5 (by decide) (hts _ mwn_95) (fun _ h9 => h9) rfl dX8_readLayer_130 ?_
                refine lv_bipush (v := 109) hx hb dX8_readLayer_133 (by decide) ?_
                refine lv_iload hx hb dX8_readLayer_135 (lv_at hl 0 rfl) ?_
                refine lv_iadd hx hb dX8_readLayer_137 ?_
                refine lv_topi (fun z_81 ez_81 => ?_)
                have tz_81 : z_81.toInt = 109 + z_76.toInt := by rw [ez_81]; exact ti_addcl (by decide) (by omega) (by omega)
                refine lv_iload_n hx hb dX8_readLayer_138 rfl (lv_at hl 5 rfl) ?_
                refine va_iast hx hb hK hP hD hS 0 0 rfl rfl (vp_in_o (by omega) (by omega)) dX8_readLayer_139 (fun H locs hP hD hS => ?_)
                replace hP : va_P D vwCl [((mm 5), .inl (k 0, 409, .inl (upd f_78 z_81.toNatClampNeg i_4))), ((mm 0), .inr (7, [.int (mf 0), .ref (mm 1), .ref (mm 2), .ref (mm 3), .ref (mm 4), .ref (mm 5), .int (mf 6), .int y_62, .int y_63, .int (mf 9), .int y_64, .int y_65, .int y_52, .int y_53, .int (mf 14), .int (mf 15), .int (mf 16), .ref (mm 6), .int (mf 18), .ref (mm 7), .ref (mm 8), .ref (mm 9), .int (mf 22), .ref (mm 10), .ref (mm 11), .int (mf 25), .int (mf 26), .ref (mm 12), .ref (mm 13), .int (mf 29), .ref (mm 14), .ref (mm 15), .ref (mm 16)])), ((mm 4), .inl (k 0, 900, .inl tf))] H := hP
                replace hD : va_D A [((mm 5), .inl (k 0, 409, .inl (upd f_78 z_81.toNatClampNeg i_4))), ((mm 0), .inr (7, [.int (mf 0), .ref (mm 1), .ref (mm 2), .ref (mm 3), .ref (mm 4), .ref (mm 5), .int (mf 6), .int y_62, .int y_63, .int (mf 9), .int y_64, .int y_65, .int y_52, .int y_53, .int (mf 14), .int (mf 15), .int (mf 16), .ref (mm 6), .int (mf 18), .ref (mm 7), .ref (mm 8), .ref (mm 9), .int (mf 22), .ref (mm 10), .ref (mm 11), .int (mf 25), .int (mf 26), .ref (mm 12), .ref (mm 13), .int (mf 29), .ref (mm 14), .ref (mm 15), .ref (mm 16)])), ((mm 4), .inl (k 0, 900, .inl tf))] := hD
                generalize ef_82 : (upd f_78 z_81.toNatClampNeg i_4) = f_82 at hP hD
                have hK_83 : RoL y_52 r d f_82 := by rw [← ef_82]; exact RoL_put (show RoL y_52 r d f_78 from hK_79) (by omega) (by omega) (by omega) (by omega) (by first | omega | exact Or.inr (Or.inr (by decide)))
                have k2_84 : f_82 2 = ef 2 := by rw [← ef_82, pk_un (by rw [ti_cl]; omega)]; exact k2_80
                refine lv_aload_n hx hb dX8_readLayer_140 rfl (lv_at hl 6 rfl) ?_
                refine va_get (D := D) (ci := 7) (v := .ref (mm 5)) (C := RX8) (T := TX8) (N := 33) hx hb hts inlX8 hown hK hP 1 rfl rfl 5 (by decide) (hts _ mwn_95) (fun _ h9 => h9) rfl dX8_readLayer_141 ?_
                refine lv_sipush (v := 169) hx hb dX8_readLayer_144 (by decide) ?_
                refine lv_iload hx hb dX8_readLayer_147 (lv_at hl 0 rfl) ?_
                refine lv_iadd hx hb dX8_readLayer_149 ?_
                refine lv_topi (fun z_85 ez_85 => ?_)
                have tz_85 : z_85.toInt = 169 + z_76.toInt := by rw [ez_85]; exact ti_addcl (by decide) (by omega) (by omega)
                refine lv_iload hx hb dX8_readLayer_150 (lv_at hl 3 rfl) ?_
                refine va_iast hx hb hK hP hD hS 0 0 rfl rfl (vp_in_o (by omega) (by omega)) dX8_readLayer_152 (fun H locs hP hD hS => ?_)
                replace hP : va_P D vwCl [((mm 5), .inl (k 0, 409, .inl (upd f_82 z_85.toNatClampNeg i_34))), ((mm 0), .inr (7, [.int (mf 0), .ref (mm 1), .ref (mm 2), .ref (mm 3), .ref (mm 4), .ref (mm 5), .int (mf 6), .int y_62, .int y_63, .int (mf 9), .int y_64, .int y_65, .int y_52, .int y_53, .int (mf 14), .int (mf 15), .int (mf 16), .ref (mm 6), .int (mf 18), .ref (mm 7), .ref (mm 8), .ref (mm 9), .int (mf 22), .ref (mm 10), .ref (mm 11), .int (mf 25), .int (mf 26), .ref (mm 12), .ref (mm 13), .int (mf 29), .ref (mm 14), .ref (mm 15), .ref (mm 16)])), ((mm 4), .inl (k 0, 900, .inl tf))] H := hP
                replace hD : va_D A [((mm 5), .inl (k 0, 409, .inl (upd f_82 z_85.toNatClampNeg i_34))), ((mm 0), .inr (7, [.int (mf 0), .ref (mm 1), .ref (mm 2), .ref (mm 3), .ref (mm 4), .ref (mm 5), .int (mf 6), .int y_62, .int y_63, .int (mf 9), .int y_64, .int y_65, .int y_52, .int y_53, .int (mf 14), .int (mf 15), .int (mf 16), .ref (mm 6), .int (mf 18), .ref (mm 7), .ref (mm 8), .ref (mm 9), .int (mf 22), .ref (mm 10), .ref (mm 11), .int (mf 25), .int (mf 26), .ref (mm 12), .ref (mm 13), .int (mf 29), .ref (mm 14), .ref (mm 15), .ref (mm 16)])), ((mm 4), .inl (k 0, 900, .inl tf))] := hD
                generalize ef_86 : (upd f_82 z_85.toNatClampNeg i_34) = f_86 at hP hD
                have hK_87 : RoL y_52 r d f_86 := by rw [← ef_86]; exact RoL_put (show RoL y_52 r d f_82 from hK_83) (by omega) (by omega) (by omega) (by omega) (by first | omega | exact Or.inr (Or.inr (by decide)))
                have k2_88 : f_86 2 = ef 2 := by rw [← ef_86, pk_un (by rw [ti_cl]; omega)]; exact k2_84
                refine lv_aload_n hx hb dX8_readLayer_153 rfl (lv_at hl 6 rfl) ?_
                refine va_get (D := D) (ci := 7) (v := .ref (mm 5)) (C := RX8) (T := TX8) (N := 33) hx hb hts inlX8 hown hK hP 1 rfl rfl 5 (by decide) (hts _ mwn_95) (fun _ h9 => h9) rfl dX8_readLayer_154 ?_
                refine lv_sipush (v := 229) hx hb dX8_readLayer_157 (by decide) ?_
                refine lv_iload hx hb dX8_readLayer_160 (lv_at hl 0 rfl) ?_
                refine lv_iadd hx hb dX8_readLayer_162 ?_
                refine lv_topi (fun z_89 ez_89 => ?_)
                have tz_89 : z_89.toInt = 229 + z_76.toInt := by rw [ez_89]; exact ti_addcl (by decide) (by omega) (by omega)
                refine lv_iload hx hb dX8_readLayer_163 (lv_at hl 2 rfl) ?_
                refine va_iast hx hb hK hP hD hS 0 0 rfl rfl (vp_in_o (by omega) (by omega)) dX8_readLayer_165 (fun H locs hP hD hS => ?_)
                replace hP : va_P D vwCl [((mm 5), .inl (k 0, 409, .inl (upd f_86 z_89.toNatClampNeg i_47))), ((mm 0), .inr (7, [.int (mf 0), .ref (mm 1), .ref (mm 2), .ref (mm 3), .ref (mm 4), .ref (mm 5), .int (mf 6), .int y_62, .int y_63, .int (mf 9), .int y_64, .int y_65, .int y_52, .int y_53, .int (mf 14), .int (mf 15), .int (mf 16), .ref (mm 6), .int (mf 18), .ref (mm 7), .ref (mm 8), .ref (mm 9), .int (mf 22), .ref (mm 10), .ref (mm 11), .int (mf 25), .int (mf 26), .ref (mm 12), .ref (mm 13), .int (mf 29), .ref (mm 14), .ref (mm 15), .ref (mm 16)])), ((mm 4), .inl (k 0, 900, .inl tf))] H := hP
                replace hD : va_D A [((mm 5), .inl (k 0, 409, .inl (upd f_86 z_89.toNatClampNeg i_47))), ((mm 0), .inr (7, [.int (mf 0), .ref (mm 1), .ref (mm 2), .ref (mm 3), .ref (mm 4), .ref (mm 5), .int (mf 6), .int y_62, .int y_63, .int (mf 9), .int y_64, .int y_65, .int y_52, .int y_53, .int (mf 14), .int (mf 15), .int (mf 16), .ref (mm 6), .int (mf 18), .ref (mm 7), .ref (mm 8), .ref (mm 9), .int (mf 22), .ref (mm 10), .ref (mm 11), .int (mf 25), .int (mf 26), .ref (mm 12), .ref (mm 13), .int (mf 29), .ref (mm 14), .ref (mm 15), .ref (mm 16)])), ((mm 4), .inl (k 0, 900, .inl tf))] := hD
                generalize ef_90 : (upd f_86 z_89.toNatClampNeg i_47) = f_90 at hP hD
                have hK_91 : RoL y_52 r d f_90 := by rw [← ef_90]; exact RoL_put (show RoL y_52 r d f_86 from hK_87) (by omega) (by omega) (by omega) (by omega) (by first | omega | exact Or.inr (Or.inr (by decide)))
                have k2_92 : f_90 2 = ef 2 := by rw [← ef_90, pk_un (by rw [ti_cl]; omega)]; exact k2_88
                refine lv_aload_n hx hb dX8_readLayer_166 rfl (lv_at hl 6 rfl) ?_
                refine va_get (D := D) (ci := 7) (v := .ref (mm 5)) (C := RX8) (T := TX8) (N := 33) hx hb hts inlX8 hown hK hP 1 rfl rfl 5 (by decide) (hts _ mwn_95) (fun _ h9 => h9) rfl dX8_readLayer_167 ?_
                refine lv_sipush (v := 289) hx hb dX8_readLayer_170 (by decide) ?_
                refine lv_iload hx hb dX8_readLayer_173 (lv_at hl 0 rfl) ?_
                refine lv_iadd hx hb dX8_readLayer_175 ?_
                refine lv_topi (fun z_93 ez_93 => ?_)
                have tz_93 : z_93.toInt = 289 + z_76.toInt := by rw [ez_93]; exact ti_addcl (by decide) (by omega) (by omega)
                refine lv_iload hx hb dX8_readLayer_176 (lv_at hl 1 rfl) ?_
                refine va_iast hx hb hK hP hD hS 0 0 rfl rfl (vp_in_o (by omega) (by omega)) dX8_readLayer_178 (fun H locs hP hD hS => ?_)
                replace hP : va_P D vwCl [((mm 5), .inl (k 0, 409, .inl (upd f_90 z_93.toNatClampNeg i_61))), ((mm 0), .inr (7, [.int (mf 0), .ref (mm 1), .ref (mm 2), .ref (mm 3), .ref (mm 4), .ref (mm 5), .int (mf 6), .int y_62, .int y_63, .int (mf 9), .int y_64, .int y_65, .int y_52, .int y_53, .int (mf 14), .int (mf 15), .int (mf 16), .ref (mm 6), .int (mf 18), .ref (mm 7), .ref (mm 8), .ref (mm 9), .int (mf 22), .ref (mm 10), .ref (mm 11), .int (mf 25), .int (mf 26), .ref (mm 12), .ref (mm 13), .int (mf 29), .ref (mm 14), .ref (mm 15), .ref (mm 16)])), ((mm 4), .inl (k 0, 900, .inl tf))] H := hP
                replace hD : va_D A [((mm 5), .inl (k 0, 409, .inl (upd f_90 z_93.toNatClampNeg i_61))), ((mm 0), .inr (7, [.int (mf 0), .ref (mm 1), .ref (mm 2), .ref (mm 3), .ref (mm 4), .ref (mm 5), .int (mf 6), .int y_62, .int y_63, .int (mf 9), .int y_64, .int y_65, .int y_52, .int y_53, .int (mf 14), .int (mf 15), .int (mf 16), .ref (mm 6), .int (mf 18), .ref (mm 7), .ref (mm 8), .ref (mm 9), .int (mf 22), .ref (mm 10), .ref (mm 11), .int (mf 25), .int (mf 26), .ref (mm 12), .ref (mm 13), .int (mf 29), .ref (mm 14), .ref (mm 15), .ref (mm 16)])), ((mm 4), .inl (k 0, 900, .inl tf))] := hD
                generalize ef_94 : (upd f_90 z_93.toNatClampNeg i_61) = f_94 at hP hD
                have hK_95 : RoL y_52 r d f_94 := by rw [← ef_94]; exact RoL_put (show RoL y_52 r d f_90 from hK_91) (by omega) (by omega) (by omega) (by omega) (by first | omega | exact Or.inr (Or.inr (by decide)))
                have k2_96 : f_94 2 = ef 2 := by rw [← ef_94, pk_un (by rw [ti_cl]; omega)]; exact k2_92
                refine lv_aload_n hx hb dX8_readLayer_179 rfl (lv_at hl 6 rfl) ?_
                refine va_get (D := D) (ci := 7) (v := .ref (mm 5)) (C := RX8) (T := TX8) (N := 33) hx hb hts inlX8 hown hK hP 1 rfl rfl 5 (by decide) (hts _ mwn_95) (fun _ h9 => h9) rfl dX8_readLayer_180 ?_
                refine lv_bipush (v := 39) hx hb dX8_readLayer_183 (by decide) ?_
                refine lv_iload_n hx hb dX8_readLayer_185 rfl (lv_at hl 7 rfl) ?_
                refine lv_iadd hx hb dX8_readLayer_186 ?_
                refine lv_topi (fun z_97 ez_97 => ?_)
                have tz_97 : z_97.toInt = 39 + r.toInt := by rw [ez_97]; exact ti_addcl (by decide) (by omega) (by omega)
                refine lv_dup2_11 hx hb dX8_readLayer_187 rfl rfl ?_
                refine va_iald hx hb hK hP 0 0 rfl rfl (vp_in_o (by omega) (by omega)) dX8_readLayer_188 ?_
                refine lv_topi (fun z_98 ez_98 => ?_)
                have hz9 : z_98.toInt = d.toInt := RoL_ld (show RoL y_52 r d f_94 from hK_95) (by omega) (by omega) (by omega) ez_98
                refine lv_iconst (v := 1) hx hb dX8_readLayer_189 (by decide) ?_
                refine lv_iadd hx hb dX8_readLayer_190 ?_
                refine lv_topi (fun z_99 ez_99 => ?_)
                have tz_99 : z_99.toInt = z_98.toInt + 1 := by rw [ez_99]; exact ti_addc (by decide) (by omega) (by omega)
                refine va_iast hx hb hK hP hD hS 0 0 rfl rfl (vp_in_o (by omega) (by omega)) dX8_readLayer_191 (fun H locs hP hD hS => ?_)
                replace hP : va_P D vwCl [((mm 5), .inl (k 0, 409, .inl (upd f_94 z_97.toNatClampNeg z_99))), ((mm 0), .inr (7, [.int (mf 0), .ref (mm 1), .ref (mm 2), .ref (mm 3), .ref (mm 4), .ref (mm 5), .int (mf 6), .int y_62, .int y_63, .int (mf 9), .int y_64, .int y_65, .int y_52, .int y_53, .int (mf 14), .int (mf 15), .int (mf 16), .ref (mm 6), .int (mf 18), .ref (mm 7), .ref (mm 8), .ref (mm 9), .int (mf 22), .ref (mm 10), .ref (mm 11), .int (mf 25), .int (mf 26), .ref (mm 12), .ref (mm 13), .int (mf 29), .ref (mm 14), .ref (mm 15), .ref (mm 16)])), ((mm 4), .inl (k 0, 900, .inl tf))] H := hP
                replace hD : va_D A [((mm 5), .inl (k 0, 409, .inl (upd f_94 z_97.toNatClampNeg z_99))), ((mm 0), .inr (7, [.int (mf 0), .ref (mm 1), .ref (mm 2), .ref (mm 3), .ref (mm 4), .ref (mm 5), .int (mf 6), .int y_62, .int y_63, .int (mf 9), .int y_64, .int y_65, .int y_52, .int y_53, .int (mf 14), .int (mf 15), .int (mf 16), .ref (mm 6), .int (mf 18), .ref (mm 7), .ref (mm 8), .ref (mm 9), .int (mf 22), .ref (mm 10), .ref (mm 11), .int (mf 25), .int (mf 26), .ref (mm 12), .ref (mm 13), .int (mf 29), .ref (mm 14), .ref (mm 15), .ref (mm 16)])), ((mm 4), .inl (k 0, 900, .inl tf))] := hD
                generalize ef_100 : (upd f_94 z_97.toNatClampNeg z_99) = f_100 at hP hD
                obtain ⟨e_102, e_102e⟩ : ∃ q : Int32, q = d + 1 := ⟨_, rfl⟩
                have e_102t : e_102.toInt = d.toInt + 1 := by rw [e_102e]; exact ti_addc (by decide) (by omega) (by omega)
                have hK_101 : RoL y_52 r (d + 1) f_100 := by rw [← ef_100, ← e_102e]; exact RoL_inc (show RoL y_52 r d f_94 from hK_95) (by omega) (by omega) (by omega) (by omega) (by rw [k2_96]; omega) (by omega) (by omega) (by omega)
                exact W.vret hx hb hr (fun t ht hW => ⟨⟨(y_62, y_63, y_64, y_65, y_52, y_53, f_100), rfl, ⟨(show 0 ≤ y_62.toInt ∧ y_62.toInt ≤ 900 from ⟨by omega, by omega⟩), (show 0 ≤ y_63.toInt ∧ y_63.toInt ≤ 900 from ⟨by omega, by omega⟩), (show y_62.toInt ≤ y_63.toInt from by omega), (show y_63.toInt ≤ (mf 9).toInt from by omega), (show y_64.toInt = 13 ∨ y_62.toInt < y_63.toInt from by omega), (show (mf 7).toInt ≤ y_62.toInt from by omega), (show RoL y_52 r (d + 1) f_100 from hK_101)⟩, by rw [ht]; exact hP.sub [1, 2, 0] rfl, hD.sub [1, 2, 0] (by decide) rfl⟩, hS.F ht⟩) hS.2.2 dX8_readLayer_192
              · have c_74 : y_52.toInt ≠ 0 := ti_ne c_74
                exact W.vret hx hb hr (fun t ht hW => ⟨⟨(y_62, y_63, y_64, y_65, y_52, y_53, ef), rfl, ⟨(show 0 ≤ y_62.toInt ∧ y_62.toInt ≤ 900 from ⟨by omega, by omega⟩), (show 0 ≤ y_63.toInt ∧ y_63.toInt ≤ 900 from ⟨by omega, by omega⟩), (show y_62.toInt ≤ y_63.toInt from by omega), (show y_63.toInt ≤ (mf 9).toInt from by omega), (show y_64.toInt = 13 ∨ y_62.toInt < y_63.toInt from by omega), (show (mf 7).toInt ≤ y_62.toInt from by omega), (show RoL y_52 r (d + 1) ef from (by first | exact Or.inl (by omega) | exact RoL_w w_rl (by omega) | (rcases (show y_52.toInt ≠ 0 ∨ (mf 12).toInt = 0 from by omega) with q | q <;> first | exact Or.inl q | exact RoL_w w_rl q)))⟩, by rw [ht]; exact hP.sub [1, 2, 0] rfl, hD.sub [1, 2, 0] (by decide) rfl⟩, hS.F ht⟩) hS.2.2 dX8_readLayer_108
            · intro ihJ86
              refine lv_aload_n hx hb dX8_readLayer_86 rfl (lv_at hl 4 rfl) ?_
              refine lv_iconst (v := 5) hx hb dX8_readLayer_87 (by decide) ?_
              refine kV_uis (q0 := 0) (As := [.int 5]) (rest := []) (wr := [((mm 5), .inl (k 0, 409, .inl ef))]) ⟨hx, hb, hml, hown, hts⟩ (s_M_eats l D k ak av _ (va_seli [(mf 0), 0, 0, 0, 0, 0, (mf 6), y_48, y_49, (mf 9), y_50, y_51, y_52, y_53, (mf 14), (mf 15), (mf 16), 0, (mf 18), 0, 0, 0, (mf 22), 0, 0, (mf 25), (mf 26), 0, 0, (mf 29)]) tf 5 _ (show 0 ≤ y_48.toInt ∧ y_48.toInt ≤ 900 from ⟨by omega, by omega⟩) (show 0 ≤ y_49.toInt ∧ y_49.toInt ≤ 900 from ⟨by omega, by omega⟩) (show 0 ≤ (mf 9).toInt ∧ (mf 9).toInt ≤ 900 from ⟨by omega, by omega⟩) (show y_48.toInt ≤ y_49.toInt from by omega) (show y_49.toInt ≤ (mf 9).toInt from by omega) (show y_50.toInt = 13 ∨ y_48.toInt < y_49.toInt from by omega)) (gV mwn_343 mwn_344 mwn_345 mwn_5 mwn_346) hdn_yX8_eats rfl rfl ⟨Nat.le_of_ble_eq_true rfl, Nat.le_of_ble_eq_true rfl⟩ hK hN0 hW0 hS hP hD hS hA [1, 2] [0] rfl rfl (by decide) (by decide) (by decide) rfl rfl rfl rfl hl.1 rfl (Nat.le_of_ble_eq_true rfl) dX8_readLayer_88 ⟨Nat.le_of_ble_eq_true rfl, Nat.le_of_ble_eq_true rfl⟩ (fun r_103 u_104 H locs hw hP hD hS => ?_)
              obtain ⟨v_105, v_106, v_107, v_108⟩ := u_104
              obtain ⟨hr_103, h_109, h_110, h_111, h_112, h_113, h_114⟩ := hw
              replace h_109 : 0 ≤ v_105.toInt ∧ v_105.toInt ≤ 900 := h_109
              replace h_110 : 0 ≤ v_106.toInt ∧ v_106.toInt ≤ 900 := h_110
              replace h_111 : v_105.toInt ≤ v_106.toInt := h_111
              replace h_112 : v_106.toInt ≤ (mf 9).toInt := h_112
              replace h_113 : v_107.toInt = 13 ∨ v_105.toInt < v_106.toInt := h_113
              replace h_114 : y_48.toInt ≤ v_105.toInt := h_114
              replace hP : va_P D vwCl [((mm 5), .inl (k 0, 409, .inl ef)), ((mm 0), .inr (7, [.int (mf 0), .ref (mm 1), .ref (mm 2), .ref (mm 3), .ref (mm 4), .ref (mm 5), .int (mf 6), .int v_105, .int v_106, .int (mf 9), .int v_107, .int v_108, .int y_52, .int y_53, .int (mf 14), .int (mf 15), .int (mf 16), .ref (mm 6), .int (mf 18), .ref (mm 7), .ref (mm 8), .ref (mm 9), .int (mf 22), .ref (mm 10), .ref (mm 11), .int (mf 25), .int (mf 26), .ref (mm 12), .ref (mm 13), .int (mf 29), .ref (mm 14), .ref (mm 15), .ref (mm 16)])), ((mm 4), .inl (k 0, 900, .inl tf))] H := hP
              replace hD : va_D A [((mm 5), .inl (k 0, 409, .inl ef)), ((mm 0), .inr (7, [.int (mf 0), .ref (mm 1), .ref (mm 2), .ref (mm 3), .ref (mm 4), .ref (mm 5), .int (mf 6), .int v_105, .int v_106, .int (mf 9), .int v_107, .int v_108, .int y_52, .int y_53, .int (mf 14), .int (mf 15), .int (mf 16), .ref (mm 6), .int (mf 18), .ref (mm 7), .ref (mm 8), .ref (mm 9), .int (mf 22), .ref (mm 10), .ref (mm 11), .int (mf 25), .int (mf 26), .ref (mm 12), .ref (mm 13), .int (mf 29), .ref (mm 14), .ref (mm 15), .ref (mm 16)])), ((mm 4), .inl (k 0, 900, .inl tf))] := hD
              replace hr_103 : r_103.toInt = 0 ∨ (r_103.toInt = 1 ∧ y_52.toInt = 0 ∧ y_50.toInt = 5 ∧ y_49.toInt ≤ v_105.toInt) := hr_103
              refine lv_if_eq (tgt := 98) hx hb dX8_readLayer_91 (by decide) (fun c_115 => ?_) (fun c_115 => ?_)
              · have c_115 : r_103.toInt = 0 := ti_eq c_115
                have qc_115 : r_103 = 0 := ti_of (show r_103.toInt = 0 from by omega)
                refine lv_iconst (v := 0) hx hb dX8_readLayer_98 (by decide) ?_
                exact ihJ86 (0, v_105, v_106, v_107, v_108) _ _ ls ⟨(show 0 ≤ (0 : Int32).toInt ∧ (0 : Int32).toInt ≤ 1 from ⟨by decide, by decide⟩), (show 0 ≤ v_105.toInt ∧ v_105.toInt ≤ 900 from ⟨by omega, by omega⟩), (show 0 ≤ v_106.toInt ∧ v_106.toInt ≤ 900 from ⟨by omega, by omega⟩), (show v_105.toInt ≤ v_106.toInt from by omega), (show v_106.toInt ≤ (mf 9).toInt from by omega), (show v_107.toInt = 13 ∨ v_105.toInt < v_106.toInt from by omega), (show (mf 7).toInt ≤ v_105.toInt from by omega), trivial, hP.sub [0, 1, 2] rfl, hD.sub [0, 1, 2] (by decide) rfl, hS, lv_sub hl [0, 1, 2, 3, 4, 5, 6] rfl⟩
              · have c_115 : r_103.toInt ≠ 0 := ti_ne c_115
                have qc_115 : r_103 = 1 := ti_of (show r_103.toInt = 1 from by omega)
                refine lv_iconst (v := 1) hx hb dX8_readLayer_94 (by decide) ?_
                refine lv_goto (tgt := 99) hx hb dX8_readLayer_95 (by decide) ?_
                exact ihJ86 (1, v_105, v_106, v_107, v_108) _ _ ls ⟨(show 0 ≤ (1 : Int32).toInt ∧ (1 : Int32).toInt ≤ 1 from ⟨by decide, by decide⟩), (show 0 ≤ v_105.toInt ∧ v_105.toInt ≤ 900 from ⟨by omega, by omega⟩), (show 0 ≤ v_106.toInt ∧ v_106.toInt ≤ 900 from ⟨by omega, by omega⟩), (show v_105.toInt ≤ v_106.toInt from by omega), (show v_106.toInt ≤ (mf 9).toInt from by omega), (show v_107.toInt = 13 ∨ v_105.toInt < v_106.toInt from by omega), (show (mf 7).toInt ≤ v_105.toInt from by omega), trivial, hP.sub [0, 1, 2] rfl, hD.sub [0, 1, 2] (by decide) rfl, hS, lv_sub hl [0, 1, 2, 3, 4, 5, 6] rfl⟩
          · intro ihJ65
            refine lv_aload_n hx hb dX8_readLayer_65 rfl (lv_at hl 3 rfl) ?_
            refine lv_iconst (v := 4) hx hb dX8_readLayer_66 (by decide) ?_
            refine kV_uis (q0 := 0) (As := [.int 4]) (rest := []) (wr := [((mm 5), .inl (k 0, 409, .inl ef))]) ⟨hx, hb, hml, hown, hts⟩ (s_M_eats l D k ak av _ (va_seli [(mf 0), 0, 0, 0, 0, 0, (mf 6), y_35, y_36, (mf 9), y_37, y_38, v_25, v_26, (mf 14), (mf 15), (mf 16), 0, (mf 18), 0, 0, 0, (mf 22), 0, 0, (mf 25), (mf 26), 0, 0, (mf 29)]) tf 4 _ (show 0 ≤ y_35.toInt ∧ y_35.toInt ≤ 900 from ⟨by omega, by omega⟩) (show 0 ≤ y_36.toInt ∧ y_36.toInt ≤ 900 from ⟨by omega, by omega⟩) (show 0 ≤ (mf 9).toInt ∧ (mf 9).toInt ≤ 900 from ⟨by omega, by omega⟩) (show y_35.toInt ≤ y_36.toInt from by omega) (show y_36.toInt ≤ (mf 9).toInt from by omega) (show y_37.toInt = 13 ∨ y_35.toInt < y_36.toInt from by omega)) (gV mwn_343 mwn_344 mwn_345 mwn_5 mwn_346) hdn_yX8_eats rfl rfl ⟨Nat.le_of_ble_eq_true rfl, Nat.le_of_ble_eq_true rfl⟩ hK hN0 hW0 hS hP hD hS hA [1, 2] [0] rfl rfl (by decide) (by decide) (by decide) rfl rfl rfl rfl hl.1 rfl (Nat.le_of_ble_eq_true rfl) dX8_readLayer_67 ⟨Nat.le_of_ble_eq_true rfl, Nat.le_of_ble_eq_true rfl⟩ (fun r_116 u_117 H locs hw hP hD hS => ?_)
            obtain ⟨v_118, v_119, v_120, v_121⟩ := u_117
            obtain ⟨hr_116, h_122, h_123, h_124, h_125, h_126, h_127⟩ := hw
            replace h_122 : 0 ≤ v_118.toInt ∧ v_118.toInt ≤ 900 := h_122
            replace h_123 : 0 ≤ v_119.toInt ∧ v_119.toInt ≤ 900 := h_123
            replace h_124 : v_118.toInt ≤ v_119.toInt := h_124
            replace h_125 : v_119.toInt ≤ (mf 9).toInt := h_125
            replace h_126 : v_120.toInt = 13 ∨ v_118.toInt < v_119.toInt := h_126
            replace h_127 : y_35.toInt ≤ v_118.toInt := h_127
            replace hP : va_P D vwCl [((mm 5), .inl (k 0, 409, .inl ef)), ((mm 0), .inr (7, [.int (mf 0), .ref (mm 1), .ref (mm 2), .ref (mm 3), .ref (mm 4), .ref (mm 5), .int (mf 6), .int v_118, .int v_119, .int (mf 9), .int v_120, .int v_121, .int v_25, .int v_26, .int (mf 14), .int (mf 15), .int (mf 16), .ref (mm 6), .int (mf 18), .ref (mm 7), .ref (mm 8), .ref (mm 9), .int (mf 22), .ref (mm 10), .ref (mm 11), .int (mf 25), .int (mf 26), .ref (mm 12), .ref (mm 13), .int (mf 29), .ref (mm 14), .ref (mm 15), .ref (mm 16)])), ((mm 4), .inl (k 0, 900, .inl tf))] H := hP
            replace hD : va_D A [((mm 5), .inl (k 0, 409, .inl ef)), ((mm 0), .inr (7, [.int (mf 0), .ref (mm 1), .ref (mm 2), .ref (mm 3), .ref (mm 4), .ref (mm 5), .int (mf 6), .int v_118, .int v_119, .int (mf 9), .int v_120, .int v_121, .int v_25, .int v_26, .int (mf 14), .int (mf 15), .int (mf 16), .ref (mm 6), .int (mf 18), .ref (mm 7), .ref (mm 8), .ref (mm 9), .int (mf 22), .ref (mm 10), .ref (mm 11), .int (mf 25), .int (mf 26), .ref (mm 12), .ref (mm 13), .int (mf 29), .ref (mm 14), .ref (mm 15), .ref (mm 16)])), ((mm 4), .inl (k 0, 900, .inl tf))] := hD
            replace hr_116 : r_116.toInt = 0 ∨ (r_116.toInt = 1 ∧ v_25.toInt = 0 ∧ y_37.toInt = 4 ∧ y_36.toInt ≤ v_118.toInt) := hr_116
            refine lv_if_eq (tgt := 83) hx hb dX8_readLayer_70 (by decide) (fun c_128 => ?_) (fun c_128 => ?_)
            · have c_128 : r_116.toInt = 0 := ti_eq c_128
              have qc_128 : r_116 = 0 := ti_of (show r_116.toInt = 0 from by omega)
              refine lv_iconst (v := 0) hx hb dX8_readLayer_83 (by decide) ?_
              exact ihJ65 (0, v_118, v_119, v_120, v_121, v_25, v_26) _ _ ls ⟨(show 0 ≤ v_118.toInt ∧ v_118.toInt ≤ 900 from ⟨by omega, by omega⟩), (show 0 ≤ v_119.toInt ∧ v_119.toInt ≤ 900 from ⟨by omega, by omega⟩), (show v_118.toInt ≤ v_119.toInt from by omega), (show v_119.toInt ≤ (mf 9).toInt from by omega), (show v_120.toInt = 13 ∨ v_118.toInt < v_119.toInt from by omega), (show (mf 7).toInt ≤ v_118.toInt from by omega), trivial, hP.sub [0, 1, 2] rfl, hD.sub [0, 1, 2] (by decide) rfl, hS, lv_sub hl [0, 1, 2, 3, 4, 5] rfl⟩
            · have c_128 : r_116.toInt ≠ 0 := ti_ne c_128
              have qc_128 : r_116 = 1 := ti_of (show r_116.toInt = 1 from by omega)
              refine lv_aload_n hx hb dX8_readLayer_73 rfl (lv_at hl 3 rfl) ?_
              refine lv_iconst (v := 1) hx hb dX8_readLayer_74 (by decide) ?_
              refine lv_bipush (v := 99) hx hb dX8_readLayer_75 (by decide) ?_
              refine kV_uis (q0 := 0) (As := [.int 1, .int 99]) (rest := []) (wr := [((mm 5), .inl (k 0, 409, .inl ef))]) ⟨hx, hb, hml, hown, hts⟩ (s_M_takes l D k ak av _ (va_seli [(mf 0), 0, 0, 0, 0, 0, (mf 6), v_118, v_119, (mf 9), v_120, v_121, v_25, v_26, (mf 14), (mf 15), (mf 16), 0, (mf 18), 0, 0, 0, (mf 22), 0, 0, (mf 25), (mf 26), 0, 0, (mf 29)]) tf 1 99 _ (show 0 ≤ v_118.toInt ∧ v_118.toInt ≤ 900 from ⟨by omega, by omega⟩) (show 0 ≤ v_119.toInt ∧ v_119.toInt ≤ 900 from ⟨by omega, by omega⟩) (show 0 ≤ (mf 9).toInt ∧ (mf 9).toInt ≤ 900 from ⟨by omega, by omega⟩) (show v_118.toInt ≤ v_119.toInt from by omega) (show v_119.toInt ≤ (mf 9).toInt from by omega) (show v_120.toInt = 13 ∨ v_118.toInt < v_119.toInt from by omega)) (gV mwn_339 mwn_340 mwn_341 mwn_5 mwn_342) hdn_yX8_takes rfl rfl ⟨Nat.le_of_ble_eq_true rfl, Nat.le_of_ble_eq_true rfl⟩ hK hN0 hW0 hS hP hD hS hA [1, 2] [0] rfl rfl (by decide) (by decide) (by decide) rfl rfl rfl rfl hl.1 rfl (Nat.le_of_ble_eq_true rfl) dX8_readLayer_77 ⟨Nat.le_of_ble_eq_true rfl, Nat.le_of_ble_eq_true rfl⟩ (fun r_129 u_130 H locs hw hP hD hS => ?_)
              obtain ⟨v_131, v_132, v_133, v_134, v_135, v_136⟩ := u_130
              obtain ⟨hr_129, h_137, h_138, h_139, h_140, h_141, h_142, h_143⟩ := hw
              replace h_137 : 0 ≤ v_131.toInt ∧ v_131.toInt ≤ 900 := h_137
              replace h_138 : 0 ≤ v_132.toInt ∧ v_132.toInt ≤ 900 := h_138
              replace h_139 : v_131.toInt ≤ v_132.toInt := h_139
              replace h_140 : v_132.toInt ≤ (mf 9).toInt := h_140
              replace h_141 : v_133.toInt = 13 ∨ v_131.toInt < v_132.toInt := h_141
              replace h_142 : v_118.toInt ≤ v_131.toInt := h_142
              replace h_143 : v_135.toInt ≠ 0 ∨ v_25.toInt = 0 := h_143
              replace hP : va_P D vwCl [((mm 5), .inl (k 0, 409, .inl ef)), ((mm 0), .inr (7, [.int (mf 0), .ref (mm 1), .ref (mm 2), .ref (mm 3), .ref (mm 4), .ref (mm 5), .int (mf 6), .int v_131, .int v_132, .int (mf 9), .int v_133, .int v_134, .int v_135, .int v_136, .int (mf 14), .int (mf 15), .int (mf 16), .ref (mm 6), .int (mf 18), .ref (mm 7), .ref (mm 8), .ref (mm 9), .int (mf 22), .ref (mm 10), .ref (mm 11), .int (mf 25), .int (mf 26), .ref (mm 12), .ref (mm 13), .int (mf 29), .ref (mm 14), .ref (mm 15), .ref (mm 16)])), ((mm 4), .inl (k 0, 900, .inl tf))] H := hP
              replace hD : va_D A [((mm 5), .inl (k 0, 409, .inl ef)), ((mm 0), .inr (7, [.int (mf 0), .ref (mm 1), .ref (mm 2), .ref (mm 3), .ref (mm 4), .ref (mm 5), .int (mf 6), .int v_131, .int v_132, .int (mf 9), .int v_133, .int v_134, .int v_135, .int v_136, .int (mf 14), .int (mf 15), .int (mf 16), .ref (mm 6), .int (mf 18), .ref (mm 7), .ref (mm 8), .ref (mm 9), .int (mf 22), .ref (mm 10), .ref (mm 11), .int (mf 25), .int (mf 26), .ref (mm 12), .ref (mm 13), .int (mf 29), .ref (mm 14), .ref (mm 15), .ref (mm 16)])), ((mm 4), .inl (k 0, 900, .inl tf))] := hD
              replace hr_129 : v_135.toInt ≠ 0 ∨ (1 ≤ r_129.toInt ∧ r_129.toInt ≤ 99) := hr_129
              refine lv_goto (tgt := 84) hx hb dX8_readLayer_80 (by decide) ?_
              exact ihJ65 (r_129, v_131, v_132, v_133, v_134, v_135, v_136) _ _ ls ⟨(show 0 ≤ v_131.toInt ∧ v_131.toInt ≤ 900 from ⟨by omega, by omega⟩), (show 0 ≤ v_132.toInt ∧ v_132.toInt ≤ 900 from ⟨by omega, by omega⟩), (show v_131.toInt ≤ v_132.toInt from by omega), (show v_132.toInt ≤ (mf 9).toInt from by omega), (show v_133.toInt = 13 ∨ v_131.toInt < v_132.toInt from by omega), (show (mf 7).toInt ≤ v_131.toInt from by omega), trivial, hP.sub [0, 1, 2] rfl, hD.sub [0, 1, 2] (by decide) rfl, hS, lv_sub hl [0, 1, 2, 3, 4, 5] rfl⟩
        · intro ihJ50
          refine lv_aload_n hx hb dX8_readLayer_50 rfl (lv_at hl 2 rfl) ?_
          refine lv_iconst (v := 3) hx hb dX8_readLayer_51 (by decide) ?_
          refine kV_uis (q0 := 0) (As := [.int 3]) (rest := []) (wr := [((mm 5), .inl (k 0, 409, .inl ef))]) ⟨hx, hb, hml, hown, hts⟩ (s_M_eats l D k ak av _ (va_seli [(mf 0), 0, 0, 0, 0, 0, (mf 6), v_21, v_22, (mf 9), v_23, v_24, v_25, v_26, (mf 14), (mf 15), (mf 16), 0, (mf 18), 0, 0, 0, (mf 22), 0, 0, (mf 25), (mf 26), 0, 0, (mf 29)]) tf 3 _ (show 0 ≤ v_21.toInt ∧ v_21.toInt ≤ 900 from ⟨by omega, by omega⟩) (show 0 ≤ v_22.toInt ∧ v_22.toInt ≤ 900 from ⟨by omega, by omega⟩) (show 0 ≤ (mf 9).toInt ∧ (mf 9).toInt ≤ 900 from ⟨by omega, by omega⟩) (show v_21.toInt ≤ v_22.toInt from by omega) (show v_22.toInt ≤ (mf 9).toInt from by omega) (show v_23.toInt = 13 ∨ v_21.toInt < v_22.toInt from by omega)) (gV mwn_343 mwn_344 mwn_345 mwn_5 mwn_346) hdn_yX8_eats rfl rfl ⟨Nat.le_of_ble_eq_true rfl, Nat.le_of_ble_eq_true rfl⟩ hK hN0 hW0 hS hP hD hS hA [1, 2] [0] rfl rfl (by decide) (by decide) (by decide) rfl rfl rfl rfl hl.1 rfl (Nat.le_of_ble_eq_true rfl) dX8_readLayer_52 ⟨Nat.le_of_ble_eq_true rfl, Nat.le_of_ble_eq_true rfl⟩ (fun r_144 u_145 H locs hw hP hD hS => ?_)
          obtain ⟨v_146, v_147, v_148, v_149⟩ := u_145
          obtain ⟨hr_144, h_150, h_151, h_152, h_153, h_154, h_155⟩ := hw
          replace h_150 : 0 ≤ v_146.toInt ∧ v_146.toInt ≤ 900 := h_150
          replace h_151 : 0 ≤ v_147.toInt ∧ v_147.toInt ≤ 900 := h_151
          replace h_152 : v_146.toInt ≤ v_147.toInt := h_152
          replace h_153 : v_147.toInt ≤ (mf 9).toInt := h_153
          replace h_154 : v_148.toInt = 13 ∨ v_146.toInt < v_147.toInt := h_154
          replace h_155 : v_21.toInt ≤ v_146.toInt := h_155
          replace hP : va_P D vwCl [((mm 5), .inl (k 0, 409, .inl ef)), ((mm 0), .inr (7, [.int (mf 0), .ref (mm 1), .ref (mm 2), .ref (mm 3), .ref (mm 4), .ref (mm 5), .int (mf 6), .int v_146, .int v_147, .int (mf 9), .int v_148, .int v_149, .int v_25, .int v_26, .int (mf 14), .int (mf 15), .int (mf 16), .ref (mm 6), .int (mf 18), .ref (mm 7), .ref (mm 8), .ref (mm 9), .int (mf 22), .ref (mm 10), .ref (mm 11), .int (mf 25), .int (mf 26), .ref (mm 12), .ref (mm 13), .int (mf 29), .ref (mm 14), .ref (mm 15), .ref (mm 16)])), ((mm 4), .inl (k 0, 900, .inl tf))] H := hP
          replace hD : va_D A [((mm 5), .inl (k 0, 409, .inl ef)), ((mm 0), .inr (7, [.int (mf 0), .ref (mm 1), .ref (mm 2), .ref (mm 3), .ref (mm 4), .ref (mm 5), .int (mf 6), .int v_146, .int v_147, .int (mf 9), .int v_148, .int v_149, .int v_25, .int v_26, .int (mf 14), .int (mf 15), .int (mf 16), .ref (mm 6), .int (mf 18), .ref (mm 7), .ref (mm 8), .ref (mm 9), .int (mf 22), .ref (mm 10), .ref (mm 11), .int (mf 25), .int (mf 26), .ref (mm 12), .ref (mm 13), .int (mf 29), .ref (mm 14), .ref (mm 15), .ref (mm 16)])), ((mm 4), .inl (k 0, 900, .inl tf))] := hD
          replace hr_144 : r_144.toInt = 0 ∨ (r_144.toInt = 1 ∧ v_25.toInt = 0 ∧ v_23.toInt = 3 ∧ v_22.toInt ≤ v_146.toInt) := hr_144
          refine lv_if_eq (tgt := 62) hx hb dX8_readLayer_55 (by decide) (fun c_156 => ?_) (fun c_156 => ?_)
          · have c_156 : r_144.toInt = 0 := ti_eq c_156
            have qc_156 : r_144 = 0 := ti_of (show r_144.toInt = 0 from by omega)
            refine lv_iconst (v := 0) hx hb dX8_readLayer_62 (by decide) ?_
            exact ihJ50 (0, v_146, v_147, v_148, v_149) _ _ ls ⟨(show 0 ≤ (0 : Int32).toInt ∧ (0 : Int32).toInt ≤ 1 from ⟨by decide, by decide⟩), (show 0 ≤ v_146.toInt ∧ v_146.toInt ≤ 900 from ⟨by omega, by omega⟩), (show 0 ≤ v_147.toInt ∧ v_147.toInt ≤ 900 from ⟨by omega, by omega⟩), (show v_146.toInt ≤ v_147.toInt from by omega), (show v_147.toInt ≤ (mf 9).toInt from by omega), (show v_148.toInt = 13 ∨ v_146.toInt < v_147.toInt from by omega), (show (mf 7).toInt ≤ v_146.toInt from by omega), trivial, hP.sub [0, 1, 2] rfl, hD.sub [0, 1, 2] (by decide) rfl, hS, lv_sub hl [0, 1, 2, 3, 4] rfl⟩
          · have c_156 : r_144.toInt ≠ 0 := ti_ne c_156
            have qc_156 : r_144 = 1 := ti_of (show r_144.toInt = 1 from by omega)
            refine lv_iconst (v := 1) hx hb dX8_readLayer_58 (by decide) ?_
            refine lv_goto (tgt := 63) hx hb dX8_readLayer_59 (by decide) ?_
            exact ihJ50 (1, v_146, v_147, v_148, v_149) _ _ ls ⟨(show 0 ≤ (1 : Int32).toInt ∧ (1 : Int32).toInt ≤ 1 from ⟨by decide, by decide⟩), (show 0 ≤ v_146.toInt ∧ v_146.toInt ≤ 900 from ⟨by omega, by omega⟩), (show 0 ≤ v_147.toInt ∧ v_147.toInt ≤ 900 from ⟨by omega, by omega⟩), (show v_146.toInt ≤ v_147.toInt from by omega), (show v_147.toInt ≤ (mf 9).toInt from by omega), (show v_148.toInt = 13 ∨ v_146.toInt < v_147.toInt from by omega), (show (mf 7).toInt ≤ v_146.toInt from by omega), trivial, hP.sub [0, 1, 2] rfl, hD.sub [0, 1, 2] (by decide) rfl, hS, lv_sub hl [0, 1, 2, 3, 4] rfl⟩
      · intro ihJ23
        refine lv_aload_n hx hb dX8_readLayer_23 rfl (lv_at hl 0 rfl) ?_
        refine va_get (D := D) (ci := 7) (v := .int (mf 10)) (C := RX8) (T := TX8) (N := 33) hx hb hts inlX8 hown hK hP 0 rfl rfl 10 (by decide) (hts _ mwn_290) (fun _ h9 => h9) rfl dX8_readLayer_24 ?_
        refine lv_iconst (v := 1) hx hb dX8_readLayer_27 (by decide) ?_
        refine lv_icmp_ne (tgt := 35) hx hb dX8_readLayer_28 (by decide) (fun c_157 => ?_) (fun c_157 => ?_)
        · have c_157 : (mf 10).toInt ≠ 1 := ti_ne c_157
          refine lv_iconst (v := 1) hx hb dX8_readLayer_35 (by decide) ?_
          exact ihJ23 (1) _ _ ls ⟨(show 0 ≤ (1 : Int32).toInt ∧ (1 : Int32).toInt ≤ 1 from ⟨by decide, by decide⟩), trivial, hP.sub [0, 1, 2] rfl, hD.sub [0, 1, 2] (by decide) rfl, hS, lv_sub hl [0, 1, 2] rfl⟩
        · have c_157 : (mf 10).toInt = 1 := ti_eq c_157
          have qc_157 : (mf 10) = 1 := ti_of (show (mf 10).toInt = 1 from by omega)
          refine lv_iconst (v := 0) hx hb dX8_readLayer_31 (by decide) ?_
          refine lv_goto (tgt := 36) hx hb dX8_readLayer_32 (by decide) ?_
          exact ihJ23 (0) _ _ ls ⟨(show 0 ≤ (0 : Int32).toInt ∧ (0 : Int32).toInt ≤ 1 from ⟨by decide, by decide⟩), trivial, hP.sub [0, 1, 2] rfl, hD.sub [0, 1, 2] (by decide) rfl, hS, lv_sub hl [0, 1, 2] rfl⟩
    · have c_3 : (mf 12).toInt ≠ 0 := ti_ne c_3
      exact W.vret hx hb hr (fun t ht hW => ⟨⟨((mf 7), (mf 8), (mf 10), (mf 11), (mf 12), (mf 13), ef), rfl, ⟨(show 0 ≤ (mf 7).toInt ∧ (mf 7).toInt ≤ 900 from ⟨by omega, by omega⟩), (show 0 ≤ (mf 8).toInt ∧ (mf 8).toInt ≤ 900 from ⟨by omega, by omega⟩), (show (mf 7).toInt ≤ (mf 8).toInt from by omega), (show (mf 8).toInt ≤ (mf 9).toInt from by omega), (show (mf 10).toInt = 13 ∨ (mf 7).toInt < (mf 8).toInt from by omega), (show (mf 7).toInt ≤ (mf 7).toInt from by omega), (show RoL (mf 12) r (d + 1) ef from (by first | exact Or.inl (by omega) | exact RoL_w w_rl (by omega) | (rcases (show (mf 12).toInt ≠ 0 ∨ (mf 12).toInt = 0 from by omega) with q | q <;> first | exact Or.inl q | exact RoL_w w_rl q)))⟩, by rw [ht]; exact hP.sub [0, 1, 2] rfl, hD.sub [0, 1, 2] (by decide) rfl⟩, hS.F ht⟩) hS.2.2 dX8_readLayer_22
  · have c_2 : d.toInt = z_1.toInt := ti_eq c_2
    refine lv_aload_n hx hb dX8_readLayer_10 rfl (lv_at hl 0 rfl) ?_
    refine lv_iconst (v := 4) hx hb dX8_readLayer_11 (by decide) ?_
    refine kV_uv (q0 := 0) (As := [.int 4]) (rest := []) (wr := [((mm 4), .inl (k 0, 900, .inl tf)), ((mm 5), .inl (k 0, 409, .inl ef))]) ⟨hx, hb, hml, hown, hts⟩ (s_M_fails l D k _ mf 4 _ (show 1 ≤ (4 : Int32).toInt ∧ (4 : Int32).toInt ≤ 4 from ⟨by decide, by decide⟩)) (gV mwn_331 mwn_332 mwn_333 mwn_5 mwn_334) hdn_yX8_fails rfl rfl ⟨Nat.le_of_ble_eq_true rfl, Nat.le_of_ble_eq_true rfl⟩ hK hN0 hP hD hS hA [0] [1, 2] rfl rfl (by decide) (by decide) (by decide) rfl rfl rfl rfl hl.1 rfl (Nat.le_of_ble_eq_true rfl) dX8_readLayer_12 ⟨Nat.le_of_ble_eq_true rfl, Nat.le_of_ble_eq_true rfl⟩ (fun u_159 H locs hw hP hD hS => ?_)
    obtain ⟨v_160, v_161⟩ := u_159
    have h_162 := hw
    replace h_162 : v_160.toInt ≠ 0 := h_162
    replace hP : va_P D vwCl [((mm 4), .inl (k 0, 900, .inl tf)), ((mm 5), .inl (k 0, 409, .inl ef)), ((mm 0), .inr (7, [.int (mf 0), .ref (mm 1), .ref (mm 2), .ref (mm 3), .ref (mm 4), .ref (mm 5), .int (mf 6), .int (mf 7), .int (mf 8), .int (mf 9), .int (mf 10), .int (mf 11), .int v_160, .int v_161, .int (mf 14), .int (mf 15), .int (mf 16), .ref (mm 6), .int (mf 18), .ref (mm 7), .ref (mm 8), .ref (mm 9), .int (mf 22), .ref (mm 10), .ref (mm 11), .int (mf 25), .int (mf 26), .ref (mm 12), .ref (mm 13), .int (mf 29), .ref (mm 14), .ref (mm 15), .ref (mm 16)]))] H := hP
    replace hD : va_D A [((mm 4), .inl (k 0, 900, .inl tf)), ((mm 5), .inl (k 0, 409, .inl ef)), ((mm 0), .inr (7, [.int (mf 0), .ref (mm 1), .ref (mm 2), .ref (mm 3), .ref (mm 4), .ref (mm 5), .int (mf 6), .int (mf 7), .int (mf 8), .int (mf 9), .int (mf 10), .int (mf 11), .int v_160, .int v_161, .int (mf 14), .int (mf 15), .int (mf 16), .ref (mm 6), .int (mf 18), .ref (mm 7), .ref (mm 8), .ref (mm 9), .int (mf 22), .ref (mm 10), .ref (mm 11), .int (mf 25), .int (mf 26), .ref (mm 12), .ref (mm 13), .int (mf 29), .ref (mm 14), .ref (mm 15), .ref (mm 16)]))] := hD
    refine lv_aload_n hx hb dX8_readLayer_15 rfl (lv_at hl 0 rfl) ?_
    refine va_get (D := D) (ci := 7) (v := .int v_160) (C := RX8) (T := TX8) (N := 33) hx hb hts inlX8 hown hK hP 2 rfl rfl 12 (by decide) (hts _ mwn_289) (fun _ h9 => h9) rfl dX8_readLayer_16 ?_
    refine lv_if_eq (tgt := 23) hx hb dX8_readLayer_19 (by decide) (fun c_163 => by have q := ti_eq c_163; have q : v_160.toInt = 0 := q; exfalso; omega) (fun c_163 => ?_)
    have c_163 : v_160.toInt ≠ 0 := ti_ne c_163
    exact W.vret hx hb hr (fun t ht hW => ⟨⟨((mf 7), (mf 8), (mf 10), (mf 11), v_160, v_161, ef), rfl, ⟨(show 0 ≤ (mf 7).toInt ∧ (mf 7).toInt ≤ 900 from ⟨by omega, by omega⟩), (show 0 ≤ (mf 8).toInt ∧ (mf 8).toInt ≤ 900 from ⟨by omega, by omega⟩), (show (mf 7).toInt ≤ (mf 8).toInt from by omega), (show (mf 8).toInt ≤ (mf 9).toInt from by omega), (show (mf 10).toInt = 13 ∨ (mf 7).toInt < (mf 8).toInt from by omega), (show (mf 7).toInt ≤ (mf 7).toInt from by omega), (show RoL v_160 r (d + 1) ef from (by first | exact Or.inl (by omega) | exact RoL_w w_rl (by omega) | (rcases (show v_160.toInt ≠ 0 ∨ (mf 12).toInt = 0 from by omega) with q | q <;> first | exact Or.inl q | exact RoL_w w_rl q)))⟩, by rw [ht]; exact hP.sub [2, 0, 1] rfl, hD.sub [2, 0, 1] (by decide) rfl⟩, hS.F ht⟩) hS.2.2 dX8_readLayer_22
set_option maxHeartbeats 4000000 in
set_option maxRecDepth 100000 in
theorem s_M_readRoof (l : Launch) (D : va_G) (k : Nat → ClassId) (ak : Nat → Nat) (av : Nat → Nat) (mm : Nat → Nat) (mf : Nat → Int32) (tf : Nat → Int32) (ef : Nat → Int32) (sz : Nat) (w_t7 : 0 ≤ (mf 7).toInt ∧ (mf 7).toInt ≤ 900) (w_t8 : 0 ≤ (mf 8).toInt ∧ (mf 8).toInt ≤ 900) (w_t9 : 0 ≤ (mf 9).toInt ∧ (mf 9).toInt ≤ 900) (w_ta : (mf 7).toInt ≤ (mf 8).toInt) (w_tb : (mf 8).toInt ≤ (mf 9).toInt) (w_tc : (mf 10).toInt = 13 ∨ (mf 7).toInt < (mf 8).toInt) (w_w0 : (mf 12).toInt = 0) (w_fr : FR (mf 12) ef) : Met l yX8_readRoof (Cond.code yX8_readRoof cX8_readRoof 3 none :: wsL_law) ({ frames := 8, cells := 0, slots := 0, locals := 480 } : Room) (va_Pc [.ref (mm 0)] (pus ak av D k sz [((mm 0), .inr (7, [.int (mf 0), .ref (mm 1), .ref (mm 2), .ref (mm 3), .ref (mm 4), .ref (mm 5), .int (mf 6), .int (mf 7), .int (mf 8), .int (mf 9), .int (mf 10), .int (mf 11), .int (mf 12), .int (mf 13), .int (mf 14), .int (mf 15), .int (mf 16), .ref (mm 6), .int (mf 18), .ref (mm 7), .ref (mm 8), .ref (mm 9), .int (mf 22), .ref (mm 10), .ref (mm 11), .int (mf 25), .int (mf 26), .ref (mm 12), .ref (mm 13), .int (mf 29), .ref (mm 14), .ref (mm 15), .ref (mm 16)])), ((mm 4), .inl (k 0, 900, .inl tf)), ((mm 5), .inl (k 0, 409, .inl ef))])) (va_Qv (fun uu : Int32 × Int32 × Int32 × Int32 × Int32 × Int32 × (Nat → Int32) => (0 ≤ uu.1.toInt ∧ uu.1.toInt ≤ 900) ∧ (0 ≤ uu.2.1.toInt ∧ uu.2.1.toInt ≤ 900) ∧ (uu.1.toInt ≤ uu.2.1.toInt) ∧ (uu.2.1.toInt ≤ (mf 9).toInt) ∧ (uu.2.2.1.toInt = 13 ∨ uu.1.toInt < uu.2.1.toInt) ∧ ((mf 7).toInt ≤ uu.1.toInt) ∧ (FR uu.2.2.2.2.1 uu.2.2.2.2.2.2)) (qu D (va_A [((mm 0), .inr (7, [.int (mf 0), .ref (mm 1), .ref (mm 2), .ref (mm 3), .ref (mm 4), .ref (mm 5), .int (mf 6), .int (mf 7), .int (mf 8), .int (mf 9), .int (mf 10), .int (mf 11), .int (mf 12), .int (mf 13), .int (mf 14), .int (mf 15), .int (mf 16), .ref (mm 6), .int (mf 18), .ref (mm 7), .ref (mm 8), .ref (mm 9), .int (mf 22), .ref (mm 10), .ref (mm 11), .int (mf 25), .int (mf 26), .ref (mm 12), .ref (mm 13), .int (mf 29), .ref (mm 14), .ref (mm 15), .ref (mm 16)])), ((mm 4), .inl (k 0, 900, .inl tf)), ((mm 5), .inl (k 0, 409, .inl ef))] sz) (fun uu : Int32 × Int32 × Int32 × Int32 × Int32 × Int32 × (Nat → Int32) => [((mm 0), .inr (7, [.int (mf 0), .ref (mm 1), .ref (mm 2), .ref (mm 3), .ref (mm 4), .ref (mm 5), .int (mf 6), .int uu.1, .int uu.2.1, .int (mf 9), .int uu.2.2.1, .int uu.2.2.2.1, .int uu.2.2.2.2.1, .int uu.2.2.2.2.2.1, .int (mf 14), .int (mf 15), .int (mf 16), .ref (mm 6), .int (mf 18), .ref (mm 7), .ref (mm 8), .ref (mm 9), .int (mf 22), .ref (mm 10), .ref (mm 11), .int (mf 25), .int (mf 26), .ref (mm 12), .ref (mm 13), .int (mf 29), .ref (mm 14), .ref (mm 15), .ref (mm 16)])), ((mm 4), .inl (k 0, 900, .inl tf)), ((mm 5), .inl (k 0, 409, .inl uu.2.2.2.2.2.2))])) (va_A [((mm 0), .inr (7, [.int (mf 0), .ref (mm 1), .ref (mm 2), .ref (mm 3), .ref (mm 4), .ref (mm 5), .int (mf 6), .int (mf 7), .int (mf 8), .int (mf 9), .int (mf 10), .int (mf 11), .int (mf 12), .int (mf 13), .int (mf 14), .int (mf 15), .int (mf 16), .ref (mm 6), .int (mf 18), .ref (mm 7), .ref (mm 8), .ref (mm 9), .int (mf 22), .ref (mm 10), .ref (mm 11), .int (mf 25), .int (mf 26), .ref (mm 12), .ref (mm 13), .int (mf 29), .ref (mm 14), .ref (mm 15), .ref (mm 16)])), ((mm 4), .inl (k 0, 900, .inl tf)), ((mm 5), .inl (k 0, 409, .inl ef))] sz)) 0 0 (va_A [((mm 0), .inr (7, [.int (mf 0), .ref (mm 1), .ref (mm 2), .ref (mm 3), .ref (mm 4), .ref (mm 5), .int (mf 6), .int (mf 7), .int (mf 8), .int (mf 9), .int (mf 10), .int (mf 11), .int (mf 12), .int (mf 13), .int (mf 14), .int (mf 15), .int (mf 16), .ref (mm 6), .int (mf 18), .ref (mm 7), .ref (mm 8), .ref (mm 9), .int (mf 22), .ref (mm 10), .ref (mm 11), .int (mf 25), .int (mf 26), .ref (mm 12), .ref (mm 13), .int (mf 29), .ref (mm 14), .ref (mm 15), .ref (mm 16)])), ((mm 4), .inl (k 0, 900, .inl tf)), ((mm 5), .inl (k 0, 409, .inl ef))] sz) := by
  refine Met.ofW (cc := cX8_readRoof) (maxL := 3) (ret := none) (by decide) rfl ?_
  intro p e s m args below meth c s₁ B hml hv
  obtain ⟨rfl, hsz, hP, hK, hD0, hN0, hW0⟩ := hv
  have hx := B.exec
  have hb := B.bytes
  have hr := B.returns
  have hts : ∀ w ∈ wsL_law, w.before _ s = true := fun w h => atoms_spec (ws := Cond.code yX8_readRoof cX8_readRoof 3 none :: wsL_law) B.pre w (List.mem_cons_of_mem _ h)
  have hown : s.vm.findClass RX8 = some m.cls := findClass_of_methodNamed B.named
  have hlocks := B.notSynchronized
  subst hsz
  have hD := hD0.self (sz := s.heap.size)
  generalize hAe : va_A [((mm 0), .inr (7, [.int (mf 0), .ref (mm 1), .ref (mm 2), .ref (mm 3), .ref (mm 4), .ref (mm 5), .int (mf 6), .int (mf 7), .int (mf 8), .int (mf 9), .int (mf 10), .int (mf 11), .int (mf 12), .int (mf 13), .int (mf 14), .int (mf 15), .int (mf 16), .ref (mm 6), .int (mf 18), .ref (mm 7), .ref (mm 8), .ref (mm 9), .int (mf 22), .ref (mm 10), .ref (mm 11), .int (mf 25), .int (mf 26), .ref (mm 12), .ref (mm 13), .int (mf 29), .ref (mm 14), .ref (mm 15), .ref (mm 16)])), ((mm 4), .inl (k 0, 900, .inl tf)), ((mm 5), .inl (k 0, 409, .inl ef))] s.heap.size = A at hD hW0 ⊢
  have hA : ∀ q : Nat, s.heap.size ≤ q → A q := fun q h => by rw [← hAe]; exact Or.inr h
  have hS : va_S A s.heap s.heap [] := va_S.rf
  replace hP : va_P D vwCl [((mm 0), .inr (7, [.int (mf 0), .ref (mm 1), .ref (mm 2), .ref (mm 3), .ref (mm 4), .ref (mm 5), .int (mf 6), .int (mf 7), .int (mf 8), .int (mf 9), .int (mf 10), .int (mf 11), .int (mf 12), .int (mf 13), .int (mf 14), .int (mf 15), .int (mf 16), .ref (mm 6), .int (mf 18), .ref (mm 7), .ref (mm 8), .ref (mm 9), .int (mf 22), .ref (mm 10), .ref (mm 11), .int (mf 25), .int (mf 26), .ref (mm 12), .ref (mm 13), .int (mf 29), .ref (mm 14), .ref (mm 15), .ref (mm 16)])), ((mm 4), .inl (k 0, 900, .inl tf)), ((mm 5), .inl (k 0, 409, .inl ef))] s.heap := hP
  have hl := lv_entry ([.ref (mm 0)]) (n := 3) (Nat.le_of_ble_eq_true rfl)
  rw [lg_entry_eq]
  generalize (lg_sl ([.ref (mm 0)]) ++ List.replicate (3 - (lg_sl ([.ref (mm 0)])).length) Slot.unset).toArray = ls at hl ⊢
  replace hl : lv_has ls 3 [(0, .ref (mm 0))] := hl
  refine lv_aload_n hx hb dX8_readRoof_0 rfl (lv_at hl 0 rfl) ?_
  refine va_get (D := D) (ci := 7) (v := .ref (mm 5)) (C := RX8) (T := TX8) (N := 33) hx hb hts inlX8 hown hK hP 0 rfl rfl 5 (by decide) (hts _ mwn_95) (fun _ h9 => h9) rfl dX8_readRoof_1 ?_
  refine lv_iconst (v := 0) hx hb dX8_readRoof_4 (by decide) ?_
  refine va_iald hx hb hK hP 2 0 rfl rfl (vp_in_c (by decide)) dX8_readRoof_5 ?_
  refine lv_topi (fun z_1 ez_1 => ?_)
  have hnz : z_1.toInt = (ef 0).toInt := by rw [ez_1]; rfl
  have hn0 := FR_n w_fr (by omega)
  refine lv_istore_n (lv' := [(1, .int z_1), (0, .ref (mm 0))]) hx hb dX8_readRoof_6 rfl hl (by decide) rfl (fun ls hl => ?_)
  refine lv_iload_n hx hb dX8_readRoof_7 rfl (lv_at hl 0 rfl) ?_
  refine lv_bipush (v := 10) hx hb dX8_readRoof_8 (by decide) ?_
  refine lv_icmp_ne (tgt := 18) hx hb dX8_readRoof_10 (by decide) (fun c_2 => ?_) (fun c_2 => ?_)
  · have c_2 : z_1.toInt ≠ 10 := ti_ne c_2
    refine lv_aload_n hx hb dX8_readRoof_18 rfl (lv_at hl 1 rfl) ?_
    refine va_get (D := D) (ci := 7) (v := .int (mf 12)) (C := RX8) (T := TX8) (N := 33) hx hb hts inlX8 hown hK hP 0 rfl rfl 12 (by decide) (hts _ mwn_289) (fun _ h9 => h9) rfl dX8_readRoof_19 ?_
    refine lv_if_eq (tgt := 26) hx hb dX8_readRoof_22 (by decide) (fun c_3 => ?_) (fun c_3 => ?_)
    · have c_3 : (mf 12).toInt = 0 := ti_eq c_3
      have qc_3 : (mf 12) = 0 := ti_of (show (mf 12).toInt = 0 from by omega)
      have hr9 : z_1.toInt ≤ 9 := by omega
      have hRL : RoL (mf 12) z_1 (0 : Int32) ef := RoL_of w_fr (by omega) (by omega) (by omega)
      refine lv_aload_n hx hb dX8_readRoof_26 rfl (lv_at hl 1 rfl) ?_
      refine kV_uvs (q0 := 0) (As := []) (rest := []) (wr := [((mm 5), .inl (k 0, 409, .inl ef))]) ⟨hx, hb, hml, hown, hts⟩ (s_M_nextToken l D k ak av _ mf tf _ (show 0 ≤ (mf 8).toInt ∧ (mf 8).toInt ≤ 900 from ⟨by omega, by omega⟩) (show 0 ≤ (mf 9).toInt ∧ (mf 9).toInt ≤ 900 from ⟨by omega, by omega⟩) (show (mf 8).toInt ≤ (mf 9).toInt from by omega)) (gV mwn_297 mwn_298 mwn_299 mwn_5 mwn_300) hdn_yX8_nextToken rfl rfl ⟨Nat.le_of_ble_eq_true rfl, Nat.le_of_ble_eq_true rfl⟩ hK hN0 hW0 hS hP hD hS hA [0, 1] [2] rfl rfl (by decide) (by decide) (by decide) rfl rfl rfl rfl hl.1 rfl (Nat.le_of_ble_eq_true rfl) dX8_readRoof_27 ⟨Nat.le_of_ble_eq_true rfl, Nat.le_of_ble_eq_true rfl⟩ (fun u_5 H locs hw hP hD hS => ?_)
      obtain ⟨v_6, v_7, v_8, v_9⟩ := u_5
      obtain ⟨h_10, h_11, h_12, h_13, h_14, h_15⟩ := hw
      replace h_10 : 0 ≤ v_6.toInt ∧ v_6.toInt ≤ 900 := h_10
      replace h_11 : 0 ≤ v_7.toInt ∧ v_7.toInt ≤ 900 := h_11
      replace h_12 : v_6.toInt ≤ v_7.toInt := h_12
      replace h_13 : v_7.toInt ≤ (mf 9).toInt := h_13
      replace h_14 : v_8.toInt = 13 ∨ v_6.toInt < v_7.toInt := h_14
      replace h_15 : (mf 8).toInt ≤ v_6.toInt := h_15
      replace hP : va_P D vwCl [((mm 5), .inl (k 0, 409, .inl ef)), ((mm 0), .inr (7, [.int (mf 0), .ref (mm 1), .ref (mm 2), .ref (mm 3), .ref (mm 4), .ref (mm 5), .int (mf 6), .int v_6, .int v_7, .int (mf 9), .int v_8, .int v_9, .int (mf 12), .int (mf 13), .int (mf 14), .int (mf 15), .int (mf 16), .ref (mm 6), .int (mf 18), .ref (mm 7), .ref (mm 8), .ref (mm 9), .int (mf 22), .ref (mm 10), .ref (mm 11), .int (mf 25), .int (mf 26), .ref (mm 12), .ref (mm 13), .int (mf 29), .ref (mm 14), .ref (mm 15), .ref (mm 16)])), ((mm 4), .inl (k 0, 900, .inl tf))] H := hP
      replace hD : va_D A [((mm 5), .inl (k 0, 409, .inl ef)), ((mm 0), .inr (7, [.int (mf 0), .ref (mm 1), .ref (mm 2), .ref (mm 3), .ref (mm 4), .ref (mm 5), .int (mf 6), .int v_6, .int v_7, .int (mf 9), .int v_8, .int v_9, .int (mf 12), .int (mf 13), .int (mf 14), .int (mf 15), .int (mf 16), .ref (mm 6), .int (mf 18), .ref (mm 7), .ref (mm 8), .ref (mm 9), .int (mf 22), .ref (mm 10), .ref (mm 11), .int (mf 25), .int (mf 26), .ref (mm 12), .ref (mm 13), .int (mf 29), .ref (mm 14), .ref (mm 15), .ref (mm 16)])), ((mm 4), .inl (k 0, 900, .inl tf))] := hD
      refine lv_iconst (v := 0) hx hb dX8_readRoof_30 (by decide) ?_
      refine lv_istore_n (lv' := [(2, .int 0), (1, .int z_1), (0, .ref (mm 0))]) hx hb dX8_readRoof_31 rfl hl (by decide) rfl (fun ls hl => ?_)
      refine W_loop (σ := Int32 × (Nat → Int32) × Int32 × Int32 × Int32 × Int32 × Int32 × Int32) (fun xx H locs ls => (0 ≤ xx.1.toInt ∧ xx.1.toInt ≤ 7) ∧ (0 ≤ xx.2.2.1.toInt ∧ xx.2.2.1.toInt ≤ 900) ∧ (0 ≤ xx.2.2.2.1.toInt ∧ xx.2.2.2.1.toInt ≤ 900) ∧ (xx.2.2.1.toInt ≤ xx.2.2.2.1.toInt) ∧ (xx.2.2.2.1.toInt ≤ (mf 9).toInt) ∧ (xx.2.2.2.2.1.toInt = 13 ∨ xx.2.2.1.toInt < xx.2.2.2.1.toInt) ∧ ((mf 7).toInt ≤ xx.2.2.1.toInt) ∧ (RoL xx.2.2.2.2.2.2.1 z_1 xx.1 xx.2.1) ∧ va_P D vwCl [((mm 5), .inl (k 0, 409, .inl xx.2.1)), ((mm 0), .inr (7, [.int (mf 0), .ref (mm 1), .ref (mm 2), .ref (mm 3), .ref (mm 4), .ref (mm 5), .int (mf 6), .int xx.2.2.1, .int xx.2.2.2.1, .int (mf 9), .int xx.2.2.2.2.1, .int xx.2.2.2.2.2.1, .int xx.2.2.2.2.2.2.1, .int xx.2.2.2.2.2.2.2, .int (mf 14), .int (mf 15), .int (mf 16), .ref (mm 6), .int (mf 18), .ref (mm 7), .ref (mm 8), .ref (mm 9), .int (mf 22), .ref (mm 10), .ref (mm 11), .int (mf 25), .int (mf 26), .ref (mm 12), .ref (mm 13), .int (mf 29), .ref (mm 14), .ref (mm 15), .ref (mm 16)])), ((mm 4), .inl (k 0, 900, .inl tf))] H ∧ va_D A [((mm 5), .inl (k 0, 409, .inl xx.2.1)), ((mm 0), .inr (7, [.int (mf 0), .ref (mm 1), .ref (mm 2), .ref (mm 3), .ref (mm 4), .ref (mm 5), .int (mf 6), .int xx.2.2.1, .int xx.2.2.2.1, .int (mf 9), .int xx.2.2.2.2.1, .int xx.2.2.2.2.2.1, .int xx.2.2.2.2.2.2.1, .int xx.2.2.2.2.2.2.2, .int (mf 14), .int (mf 15), .int (mf 16), .ref (mm 6), .int (mf 18), .ref (mm 7), .ref (mm 8), .ref (mm 9), .int (mf 22), .ref (mm 10), .ref (mm 11), .int (mf 25), .int (mf 26), .ref (mm 12), .ref (mm 13), .int (mf 29), .ref (mm 14), .ref (mm 15), .ref (mm 16)])), ((mm 4), .inl (k 0, 900, .inl tf))] ∧ va_S A s.heap H locs ∧ lv_has ls 3 [(2, .int xx.1), (1, .int z_1), (0, .ref (mm 0))]) (fun xx => (7 - xx.1.toInt).toNat) ?_ (0, ef, v_6, v_7, v_8, v_9, (mf 12), (mf 13)) _ _ ls ⟨(show 0 ≤ (0 : Int32).toInt ∧ (0 : Int32).toInt ≤ 7 from ⟨by decide, by decide⟩), (show 0 ≤ v_6.toInt ∧ v_6.toInt ≤ 900 from ⟨by omega, by omega⟩), (show 0 ≤ v_7.toInt ∧ v_7.toInt ≤ 900 from ⟨by omega, by omega⟩), (show v_6.toInt ≤ v_7.toInt from by omega), (show v_7.toInt ≤ (mf 9).toInt from by omega), (show v_8.toInt = 13 ∨ v_6.toInt < v_7.toInt from by omega), (show (mf 7).toInt ≤ v_6.toInt from by omega), (show RoL (mf 12) z_1 (0 : Int32) ef from hRL), hP.sub [0, 1, 2] rfl, hD.sub [0, 1, 2] (by decide) rfl, hS, lv_sub hl [0, 1, 2] rfl⟩
      intro xx H locs ls hI ih32
      obtain ⟨i_16, f_17, y_18, y_19, y_20, y_21, y_22, y_23⟩ := xx
      obtain ⟨h_24, h_25, h_26, h_27, h_28, h_29, h_30, h_31, hP, hD, hS, hl⟩ := hI
      replace h_24 : 0 ≤ i_16.toInt ∧ i_16.toInt ≤ 7 := h_24
      replace h_25 : 0 ≤ y_18.toInt ∧ y_18.toInt ≤ 900 := h_25
      replace h_26 : 0 ≤ y_19.toInt ∧ y_19.toInt ≤ 900 := h_26
      replace h_27 : y_18.toInt ≤ y_19.toInt := h_27
      replace h_28 : y_19.toInt ≤ (mf 9).toInt := h_28
      replace h_29 : y_20.toInt = 13 ∨ y_18.toInt < y_19.toInt := h_29
      replace h_30 : (mf 7).toInt ≤ y_18.toInt := h_30
      replace h_31 : RoL y_22 z_1 i_16 f_17 := h_31
      obtain ⟨h_24a, h_24b⟩ := h_24
      replace hP : va_P D vwCl [((mm 5), .inl (k 0, 409, .inl f_17)), ((mm 0), .inr (7, [.int (mf 0), .ref (mm 1), .ref (mm 2), .ref (mm 3), .ref (mm 4), .ref (mm 5), .int (mf 6), .int y_18, .int y_19, .int (mf 9), .int y_20, .int y_21, .int y_22, .int y_23, .int (mf 14), .int (mf 15), .int (mf 16), .ref (mm 6), .int (mf 18), .ref (mm 7), .ref (mm 8), .ref (mm 9), .int (mf 22), .ref (mm 10), .ref (mm 11), .int (mf 25), .int (mf 26), .ref (mm 12), .ref (mm 13), .int (mf 29), .ref (mm 14), .ref (mm 15), .ref (mm 16)])), ((mm 4), .inl (k 0, 900, .inl tf))] H := hP
      replace hD : va_D A [((mm 5), .inl (k 0, 409, .inl f_17)), ((mm 0), .inr (7, [.int (mf 0), .ref (mm 1), .ref (mm 2), .ref (mm 3), .ref (mm 4), .ref (mm 5), .int (mf 6), .int y_18, .int y_19, .int (mf 9), .int y_20, .int y_21, .int y_22, .int y_23, .int (mf 14), .int (mf 15), .int (mf 16), .ref (mm 6), .int (mf 18), .ref (mm 7), .ref (mm 8), .ref (mm 9), .int (mf 22), .ref (mm 10), .ref (mm 11), .int (mf 25), .int (mf 26), .ref (mm 12), .ref (mm 13), .int (mf 29), .ref (mm 14), .ref (mm 15), .ref (mm 16)])), ((mm 4), .inl (k 0, 900, .inl tf))] := hD
      replace hl : lv_has ls 3 [(2, .int i_16), (1, .int z_1), (0, .ref (mm 0))] := hl
      refine lv_aload_n hx hb dX8_readRoof_32 rfl (lv_at hl 2 rfl) ?_
      refine lv_iconst (v := 1) hx hb dX8_readRoof_33 (by decide) ?_
      refine kV_i (q0 := 0) (As := [.int 1]) (rest := []) ⟨hx, hb, hml, hown, hts⟩ (s_M_is l D k _ (va_seli [(mf 0), 0, 0, 0, 0, 0, (mf 6), y_18, y_19, (mf 9), y_20, y_21, y_22, y_23, (mf 14), (mf 15), (mf 16), 0, (mf 18), 0, 0, 0, (mf 22), 0, 0, (mf 25), (mf 26), 0, 0, (mf 29)]) 1) (gV mwn_323 mwn_324 mwn_325 mwn_5 mwn_326) hdn_yX8_is rfl rfl ⟨Nat.le_of_ble_eq_true rfl, Nat.le_of_ble_eq_true rfl⟩ hK hN0 (hP.sub [1] rfl) rfl rfl rfl rfl hl.1 rfl (Nat.le_of_ble_eq_true rfl) dX8_readRoof_34 ⟨Nat.le_of_ble_eq_true rfl, Nat.le_of_ble_eq_true rfl⟩ (fun r_32 hr_32 => ?_)
      replace hr_32 : r_32.toInt = 0 ∨ (r_32.toInt = 1 ∧ y_22.toInt = 0 ∧ y_20.toInt = 1) := hr_32
      refine lv_if_ne (tgt := 48) hx hb dX8_readRoof_37 (by decide) (fun c_33 => ?_) (fun c_33 => ?_)
      · have c_33 : r_32.toInt ≠ 0 := ti_ne c_33
        have qc_33 : r_32 = 1 := ti_of (show r_32.toInt = 1 from by omega)
        have hd6_34 := RoL_d (show RoL y_22 z_1 i_16 f_17 from h_31) (by omega)
        refine lv_aload_n hx hb dX8_readRoof_48 rfl (lv_at hl 2 rfl) ?_
        refine lv_iload_n hx hb dX8_readRoof_49 rfl (lv_at hl 1 rfl) ?_
        refine lv_iload_n hx hb dX8_readRoof_50 rfl (lv_at hl 0 rfl) ?_
        refine kV_uvs (q0 := 0) (As := [.int z_1, .int i_16]) (rest := []) (wr := []) ⟨hx, hb, hml, hown, hts⟩ (s_M_readLayer l D k ak av _ (va_seli [(mf 0), 0, 0, 0, 0, 0, (mf 6), y_18, y_19, (mf 9), y_20, y_21, y_22, y_23, (mf 14), (mf 15), (mf 16), 0, (mf 18), 0, 0, 0, (mf 22), 0, 0, (mf 25), (mf 26), 0, 0, (mf 29)]) tf f_17 z_1 i_16 _ (show 0 ≤ y_18.toInt ∧ y_18.toInt ≤ 900 from ⟨by omega, by omega⟩) (show 0 ≤ y_19.toInt ∧ y_19.toInt ≤ 900 from ⟨by omega, by omega⟩) (show 0 ≤ (mf 9).toInt ∧ (mf 9).toInt ≤ 900 from ⟨by omega, by omega⟩) (show y_18.toInt ≤ y_19.toInt from by omega) (show y_19.toInt ≤ (mf 9).toInt from by omega) (show y_20.toInt = 13 ∨ y_18.toInt < y_19.toInt from by omega) (show y_22.toInt = 0 from by omega) (show 0 ≤ z_1.toInt ∧ z_1.toInt ≤ 9 from ⟨by omega, by omega⟩) (show 0 ≤ i_16.toInt ∧ i_16.toInt ≤ 6 from ⟨by omega, by omega⟩) (show RoL y_22 z_1 i_16 f_17 from h_31)) (gV mwn_335 mwn_336 mwn_337 mwn_5 mwn_338) hdn_yX8_readLayer rfl rfl ⟨Nat.le_of_ble_eq_true rfl, Nat.le_of_ble_eq_true rfl⟩ hK hN0 hW0 hS hP hD hS hA [1, 2, 0] [] rfl rfl (by decide) (by decide) (by decide) rfl rfl rfl rfl hl.1 rfl (Nat.le_of_ble_eq_true rfl) dX8_readRoof_51 ⟨Nat.le_of_ble_eq_true rfl, Nat.le_of_ble_eq_true rfl⟩ (fun u_36 H locs hw hP hD hS => ?_)
        obtain ⟨v_37, v_38, v_39, v_40, v_41, v_42, v_43⟩ := u_36
        obtain ⟨h_44, h_45, h_46, h_47, h_48, h_49, h_50⟩ := hw
        replace h_44 : 0 ≤ v_37.toInt ∧ v_37.toInt ≤ 900 := h_44
        replace h_45 : 0 ≤ v_38.toInt ∧ v_38.toInt ≤ 900 := h_45
        replace h_46 : v_37.toInt ≤ v_38.toInt := h_46
        replace h_47 : v_38.toInt ≤ (mf 9).toInt := h_47
        replace h_48 : v_39.toInt = 13 ∨ v_37.toInt < v_38.toInt := h_48
        replace h_49 : y_18.toInt ≤ v_37.toInt := h_49
        replace h_50 : RoL v_41 z_1 (i_16 + 1) v_43 := h_50
        replace hP : va_P D vwCl [((mm 0), .inr (7, [.int (mf 0), .ref (mm 1), .ref (mm 2), .ref (mm 3), .ref (mm 4), .ref (mm 5), .int (mf 6), .int v_37, .int v_38, .int (mf 9), .int v_39, .int v_40, .int v_41, .int v_42, .int (mf 14), .int (mf 15), .int (mf 16), .ref (mm 6), .int (mf 18), .ref (mm 7), .ref (mm 8), .ref (mm 9), .int (mf 22), .ref (mm 10), .ref (mm 11), .int (mf 25), .int (mf 26), .ref (mm 12), .ref (mm 13), .int (mf 29), .ref (mm 14), .ref (mm 15), .ref (mm 16)])), ((mm 4), .inl (k 0, 900, .inl tf)), ((mm 5), .inl (k 0, 409, .inl v_43))] H := hP
        replace hD : va_D A [((mm 0), .inr (7, [.int (mf 0), .ref (mm 1), .ref (mm 2), .ref (mm 3), .ref (mm 4), .ref (mm 5), .int (mf 6), .int v_37, .int v_38, .int (mf 9), .int v_39, .int v_40, .int v_41, .int v_42, .int (mf 14), .int (mf 15), .int (mf 16), .ref (mm 6), .int (mf 18), .ref (mm 7), .ref (mm 8), .ref (mm 9), .int (mf 22), .ref (mm 10), .ref (mm 11), .int (mf 25), .int (mf 26), .ref (mm 12), .ref (mm 13), .int (mf 29), .ref (mm 14), .ref (mm 15), .ref (mm 16)])), ((mm 4), .inl (k 0, 900, .inl tf)), ((mm 5), .inl (k 0, 409, .inl v_43))] := hD
        obtain ⟨z_51, ez_51⟩ : ∃ y : Int32, y = i_16 + 1 := ⟨_, rfl⟩
        have tz_51 : z_51.toInt = i_16.toInt + 1 := by rw [ez_51]; exact ti_addc (by decide) (by omega) (by omega)
        refine lv_iinc (v := z_51) (lv' := [(2, .int z_51), (1, .int z_1), (0, .ref (mm 0))]) hx hb dX8_readRoof_54 hl (k := 0) rfl (ez_51.symm) (by decide) rfl (fun ls hl => ?_)
        have hK_52 : RoL v_41 z_1 z_51 v_43 := by rw [ez_51]; exact h_50
        refine lv_goto (tgt := 32) hx hb dX8_readRoof_57 (by decide) ?_
        exact ih32 (z_51, v_43, v_37, v_38, v_39, v_40, v_41, v_42) _ _ ls (by show (7 - z_51.toInt).toNat < (7 - i_16.toInt).toNat; omega) ⟨(show 0 ≤ z_51.toInt ∧ z_51.toInt ≤ 7 from ⟨by omega, by omega⟩), (show 0 ≤ v_37.toInt ∧ v_37.toInt ≤ 900 from ⟨by omega, by omega⟩), (show 0 ≤ v_38.toInt ∧ v_38.toInt ≤ 900 from ⟨by omega, by omega⟩), (show v_37.toInt ≤ v_38.toInt from by omega), (show v_38.toInt ≤ (mf 9).toInt from by omega), (show v_39.toInt = 13 ∨ v_37.toInt < v_38.toInt from by omega), (show (mf 7).toInt ≤ v_37.toInt from by omega), (show RoL v_41 z_1 z_51 v_43 from hK_52), hP.sub [2, 0, 1] rfl, hD.sub [2, 0, 1] (by decide) rfl, hS, lv_sub hl [0, 1, 2] rfl⟩
      · have c_33 : r_32.toInt = 0 := ti_eq c_33
        have qc_33 : r_32 = 0 := ti_of (show r_32.toInt = 0 from by omega)
        refine lv_aload_n hx hb dX8_readRoof_40 rfl (lv_at hl 2 rfl) ?_
        refine lv_iconst (v := 2) hx hb dX8_readRoof_41 (by decide) ?_
        refine kV_i (q0 := 0) (As := [.int 2]) (rest := []) ⟨hx, hb, hml, hown, hts⟩ (s_M_is l D k _ (va_seli [(mf 0), 0, 0, 0, 0, 0, (mf 6), y_18, y_19, (mf 9), y_20, y_21, y_22, y_23, (mf 14), (mf 15), (mf 16), 0, (mf 18), 0, 0, 0, (mf 22), 0, 0, (mf 25), (mf 26), 0, 0, (mf 29)]) 2) (gV mwn_323 mwn_324 mwn_325 mwn_5 mwn_326) hdn_yX8_is rfl rfl ⟨Nat.le_of_ble_eq_true rfl, Nat.le_of_ble_eq_true rfl⟩ hK hN0 (hP.sub [1] rfl) rfl rfl rfl rfl hl.1 rfl (Nat.le_of_ble_eq_true rfl) dX8_readRoof_42 ⟨Nat.le_of_ble_eq_true rfl, Nat.le_of_ble_eq_true rfl⟩ (fun r_53 hr_53 => ?_)
        replace hr_53 : r_53.toInt = 0 ∨ (r_53.toInt = 1 ∧ y_22.toInt = 0 ∧ y_20.toInt = 2) := hr_53
        refine lv_if_eq (tgt := 60) hx hb dX8_readRoof_45 (by decide) (fun c_54 => ?_) (fun c_54 => ?_)
        · have c_54 : r_53.toInt = 0 := ti_eq c_54
          have qc_54 : r_53 = 0 := ti_of (show r_53.toInt = 0 from by omega)
          refine lv_iload_n hx hb dX8_readRoof_60 rfl (lv_at hl 0 rfl) ?_
          refine lv_if_ne (tgt := 83) hx hb dX8_readRoof_61 (by decide) (fun c_55 => ?_) (fun c_55 => ?_)
          · have c_55 : i_16.toInt ≠ 0 := ti_ne c_55
            refine lv_aload_n hx hb dX8_readRoof_83 rfl (lv_at hl 2 rfl) ?_
            refine va_get (D := D) (ci := 7) (v := .int y_22) (C := RX8) (T := TX8) (N := 33) hx hb hts inlX8 hown hK hP 1 rfl rfl 12 (by decide) (hts _ mwn_289) (fun _ h9 => h9) rfl dX8_readRoof_84 ?_
            refine lv_if_ne (tgt := 100) hx hb dX8_readRoof_87 (by decide) (fun c_56 => ?_) (fun c_56 => ?_)
            · have c_56 : y_22.toInt ≠ 0 := ti_ne c_56
              exact W.vret hx hb hr (fun t ht hW => ⟨⟨(y_18, y_19, y_20, y_21, y_22, y_23, f_17), rfl, ⟨(show 0 ≤ y_18.toInt ∧ y_18.toInt ≤ 900 from ⟨by omega, by omega⟩), (show 0 ≤ y_19.toInt ∧ y_19.toInt ≤ 900 from ⟨by omega, by omega⟩), (show y_18.toInt ≤ y_19.toInt from by omega), (show y_19.toInt ≤ (mf 9).toInt from by omega), (show y_20.toInt = 13 ∨ y_18.toInt < y_19.toInt from by omega), (show (mf 7).toInt ≤ y_18.toInt from by omega), (show FR y_22 f_17 from (by first | exact Or.inl (by omega)))⟩, by rw [ht]; exact hP.sub [1, 2, 0] rfl, hD.sub [1, 2, 0] (by decide) rfl⟩, hS.F ht⟩) hS.2.2 dX8_readRoof_100
            · have c_56 : y_22.toInt = 0 := ti_eq c_56
              have qc_56 : y_22 = 0 := ti_of (show y_22.toInt = 0 from by omega)
              refine lv_aload_n hx hb dX8_readRoof_90 rfl (lv_at hl 2 rfl) ?_
              refine va_get (D := D) (ci := 7) (v := .ref (mm 5)) (C := RX8) (T := TX8) (N := 33) hx hb hts inlX8 hown hK hP 1 rfl rfl 5 (by decide) (hts _ mwn_95) (fun _ h9 => h9) rfl dX8_readRoof_91 ?_
              refine lv_iconst (v := 0) hx hb dX8_readRoof_94 (by decide) ?_
              refine lv_dup2_11 hx hb dX8_readRoof_95 rfl rfl ?_
              refine va_iald hx hb hK hP 0 0 rfl rfl (vp_in_c (by decide)) dX8_readRoof_96 ?_
              refine lv_topi (fun z_57 ez_57 => ?_)
              have hz9 : z_57.toInt = z_1.toInt := RoL_n (show RoL y_22 z_1 i_16 f_17 from h_31) (by omega) (by rw [ez_57]; rfl)
              refine lv_iconst (v := 1) hx hb dX8_readRoof_97 (by decide) ?_
              refine lv_iadd hx hb dX8_readRoof_98 ?_
              refine lv_topi (fun z_58 ez_58 => ?_)
              have tz_58 : z_58.toInt = z_57.toInt + 1 := by rw [ez_58]; exact ti_addc (by decide) (by omega) (by omega)
              refine va_iast hx hb hK hP hD hS 0 0 rfl rfl (vp_in_c (by decide)) dX8_readRoof_99 (fun H locs hP hD hS => ?_)
              replace hP : va_P D vwCl [((mm 5), .inl (k 0, 409, .inl (upd f_17 (0 : Int32).toNatClampNeg z_58))), ((mm 0), .inr (7, [.int (mf 0), .ref (mm 1), .ref (mm 2), .ref (mm 3), .ref (mm 4), .ref (mm 5), .int (mf 6), .int y_18, .int y_19, .int (mf 9), .int y_20, .int y_21, .int y_22, .int y_23, .int (mf 14), .int (mf 15), .int (mf 16), .ref (mm 6), .int (mf 18), .ref (mm 7), .ref (mm 8), .ref (mm 9), .int (mf 22), .ref (mm 10), .ref (mm 11), .int (mf 25), .int (mf 26), .ref (mm 12), .ref (mm 13), .int (mf 29), .ref (mm 14), .ref (mm 15), .ref (mm 16)])), ((mm 4), .inl (k 0, 900, .inl tf))] H := hP
              replace hD : va_D A [((mm 5), .inl (k 0, 409, .inl (upd f_17 (0 : Int32).toNatClampNeg z_58))), ((mm 0), .inr (7, [.int (mf 0), .ref (mm 1), .ref (mm 2), .ref (mm 3), .ref (mm 4), .ref (mm 5), .int (mf 6), .int y_18, .int y_19, .int (mf 9), .int y_20, .int y_21, .int y_22, .int y_23, .int (mf 14), .int (mf 15), .int (mf 16), .ref (mm 6), .int (mf 18), .ref (mm 7), .ref (mm 8), .ref (mm 9), .int (mf 22), .ref (mm 10), .ref (mm 11), .int (mf 25), .int (mf 26), .ref (mm 12), .ref (mm 13), .int (mf 29), .ref (mm 14), .ref (mm 15), .ref (mm 16)])), ((mm 4), .inl (k 0, 900, .inl tf))] := hD
              generalize ef_59 : (upd f_17 (0 : Int32).toNatClampNeg z_58) = f_59 at hP hD
              have hK_60 : FR y_22 f_59 := by rw [← ef_59]; exact FR_inc (show RoL y_22 z_1 i_16 f_17 from h_31) (by omega) (by omega) (by decide) (by omega)
              exact W.vret hx hb hr (fun t ht hW => ⟨⟨(y_18, y_19, y_20, y_21, y_22, y_23, f_59), rfl, ⟨(show 0 ≤ y_18.toInt ∧ y_18.toInt ≤ 900 from ⟨by omega, by omega⟩), (show 0 ≤ y_19.toInt ∧ y_19.toInt ≤ 900 from ⟨by omega, by omega⟩), (show y_18.toInt ≤ y_19.toInt from by omega), (show y_19.toInt ≤ (mf 9).toInt from by omega), (show y_20.toInt = 13 ∨ y_18.toInt < y_19.toInt from by omega), (show (mf 7).toInt ≤ y_18.toInt from by omega), (show FR y_22 f_59 from hK_60)⟩, by rw [ht]; exact hP.sub [1, 2, 0] rfl, hD.sub [1, 2, 0] (by decide) rfl⟩, hS.F ht⟩) hS.2.2 dX8_readRoof_100
          · have c_55 : i_16.toInt = 0 := ti_eq c_55
            have qc_55 : i_16 = 0 := ti_of (show i_16.toInt = 0 from by omega)
            refine lv_aload_n hx hb dX8_readRoof_64 rfl (lv_at hl 2 rfl) ?_
            refine lv_bipush (v := 6) hx hb dX8_readRoof_65 (by decide) ?_
            refine kV_uis (q0 := 0) (As := [.int 6]) (rest := []) (wr := [((mm 5), .inl (k 0, 409, .inl f_17))]) ⟨hx, hb, hml, hown, hts⟩ (s_M_eats l D k ak av _ (va_seli [(mf 0), 0, 0, 0, 0, 0, (mf 6), y_18, y_19, (mf 9), y_20, y_21, y_22, y_23, (mf 14), (mf 15), (mf 16), 0, (mf 18), 0, 0, 0, (mf 22), 0, 0, (mf 25), (mf 26), 0, 0, (mf 29)]) tf 6 _ (show 0 ≤ y_18.toInt ∧ y_18.toInt ≤ 900 from ⟨by omega, by omega⟩) (show 0 ≤ y_19.toInt ∧ y_19.toInt ≤ 900 from ⟨by omega, by omega⟩) (show 0 ≤ (mf 9).toInt ∧ (mf 9).toInt ≤ 900 from ⟨by omega, by omega⟩) (show y_18.toInt ≤ y_19.toInt from by omega) (show y_19.toInt ≤ (mf 9).toInt from by omega) (show y_20.toInt = 13 ∨ y_18.toInt < y_19.toInt from by omega)) (gV mwn_343 mwn_344 mwn_345 mwn_5 mwn_346) hdn_yX8_eats rfl rfl ⟨Nat.le_of_ble_eq_true rfl, Nat.le_of_ble_eq_true rfl⟩ hK hN0 hW0 hS hP hD hS hA [1, 2] [0] rfl rfl (by decide) (by decide) (by decide) rfl rfl rfl rfl hl.1 rfl (Nat.le_of_ble_eq_true rfl) dX8_readRoof_67 ⟨Nat.le_of_ble_eq_true rfl, Nat.le_of_ble_eq_true rfl⟩ (fun r_61 u_62 H locs hw hP hD hS => ?_)
            obtain ⟨v_63, v_64, v_65, v_66⟩ := u_62
            obtain ⟨hr_61, h_67, h_68, h_69, h_70, h_71, h_72⟩ := hw
            replace h_67 : 0 ≤ v_63.toInt ∧ v_63.toInt ≤ 900 := h_67
            replace h_68 : 0 ≤ v_64.toInt ∧ v_64.toInt ≤ 900 := h_68
            replace h_69 : v_63.toInt ≤ v_64.toInt := h_69
            replace h_70 : v_64.toInt ≤ (mf 9).toInt := h_70
            replace h_71 : v_65.toInt = 13 ∨ v_63.toInt < v_64.toInt := h_71
            replace h_72 : y_18.toInt ≤ v_63.toInt := h_72
            replace hP : va_P D vwCl [((mm 5), .inl (k 0, 409, .inl f_17)), ((mm 0), .inr (7, [.int (mf 0), .ref (mm 1), .ref (mm 2), .ref (mm 3), .ref (mm 4), .ref (mm 5), .int (mf 6), .int v_63, .int v_64, .int (mf 9), .int v_65, .int v_66, .int y_22, .int y_23, .int (mf 14), .int (mf 15), .int (mf 16), .ref (mm 6), .int (mf 18), .ref (mm 7), .ref (mm 8), .ref (mm 9), .int (mf 22), .ref (mm 10), .ref (mm 11), .int (mf 25), .int (mf 26), .ref (mm 12), .ref (mm 13), .int (mf 29), .ref (mm 14), .ref (mm 15), .ref (mm 16)])), ((mm 4), .inl (k 0, 900, .inl tf))] H := hP
            replace hD : va_D A [((mm 5), .inl (k 0, 409, .inl f_17)), ((mm 0), .inr (7, [.int (mf 0), .ref (mm 1), .ref (mm 2), .ref (mm 3), .ref (mm 4), .ref (mm 5), .int (mf 6), .int v_63, .int v_64, .int (mf 9), .int v_65, .int v_66, .int y_22, .int y_23, .int (mf 14), .int (mf 15), .int (mf 16), .ref (mm 6), .int (mf 18), .ref (mm 7), .ref (mm 8), .ref (mm 9), .int (mf 22), .ref (mm 10), .ref (mm 11), .int (mf 25), .int (mf 26), .ref (mm 12), .ref (mm 13), .int (mf 29), .ref (mm 14), .ref (mm 15), .ref (mm 16)])), ((mm 4), .inl (k 0, 900, .inl tf))] := hD
            replace hr_61 : r_61.toInt = 0 ∨ (r_61.toInt = 1 ∧ y_22.toInt = 0 ∧ y_20.toInt = 6 ∧ y_19.toInt ≤ v_63.toInt) := hr_61
            refine lv_if_eq (tgt := 83) hx hb dX8_readRoof_70 (by decide) (fun c_73 => ?_) (fun c_73 => ?_)
            · have c_73 : r_61.toInt = 0 := ti_eq c_73
              have qc_73 : r_61 = 0 := ti_of (show r_61.toInt = 0 from by omega)
              refine lv_aload_n hx hb dX8_readRoof_83 rfl (lv_at hl 2 rfl) ?_
              refine va_get (D := D) (ci := 7) (v := .int y_22) (C := RX8) (T := TX8) (N := 33) hx hb hts inlX8 hown hK hP 1 rfl rfl 12 (by decide) (hts _ mwn_289) (fun _ h9 => h9) rfl dX8_readRoof_84 ?_
              refine lv_if_ne (tgt := 100) hx hb dX8_readRoof_87 (by decide) (fun c_74 => ?_) (fun c_74 => ?_)
              · have c_74 : y_22.toInt ≠ 0 := ti_ne c_74
                exact W.vret hx hb hr (fun t ht hW => ⟨⟨(v_63, v_64, v_65, v_66, y_22, y_23, f_17), rfl, ⟨(show 0 ≤ v_63.toInt ∧ v_63.toInt ≤ 900 from ⟨by omega, by omega⟩), (show 0 ≤ v_64.toInt ∧ v_64.toInt ≤ 900 from ⟨by omega, by omega⟩), (show v_63.toInt ≤ v_64.toInt from by omega), (show v_64.toInt ≤ (mf 9).toInt from by omega), (show v_65.toInt = 13 ∨ v_63.toInt < v_64.toInt from by omega), (show (mf 7).toInt ≤ v_63.toInt from by omega), (show FR y_22 f_17 from (by first | exact Or.inl (by omega)))⟩, by rw [ht]; exact hP.sub [1, 2, 0] rfl, hD.sub [1, 2, 0] (by decide) rfl⟩, hS.F ht⟩) hS.2.2 dX8_readRoof_100
              · have c_74 : y_22.toInt = 0 := ti_eq c_74
                have qc_74 : y_22 = 0 := ti_of (show y_22.toInt = 0 from by omega)
                refine lv_aload_n hx hb dX8_readRoof_90 rfl (lv_at hl 2 rfl) ?_
                refine va_get (D := D) (ci := 7) (v := .ref (mm 5)) (C := RX8) (T := TX8) (N := 33) hx hb hts inlX8 hown hK hP 1 rfl rfl 5 (by decide) (hts _ mwn_95) (fun _ h9 => h9) rfl dX8_readRoof_91 ?_
                refine lv_iconst (v := 0) hx hb dX8_readRoof_94 (by decide) ?_
                refine lv_dup2_11 hx hb dX8_readRoof_95 rfl rfl ?_
                refine va_iald hx hb hK hP 0 0 rfl rfl (vp_in_c (by decide)) dX8_readRoof_96 ?_
                refine lv_topi (fun z_75 ez_75 => ?_)
                have hz9 : z_75.toInt = z_1.toInt := RoL_n (show RoL y_22 z_1 i_16 f_17 from h_31) (by omega) (by rw [ez_75]; rfl)
                refine lv_iconst (v := 1) hx hb dX8_readRoof_97 (by decide) ?_
                refine lv_iadd hx hb dX8_readRoof_98 ?_
                refine lv_topi (fun z_76 ez_76 => ?_)
                have tz_76 : z_76.toInt = z_75.toInt + 1 := by rw [ez_76]; exact ti_addc (by decide) (by omega) (by omega)
                refine va_iast hx hb hK hP hD hS 0 0 rfl rfl (vp_in_c (by decide)) dX8_readRoof_99 (fun H locs hP hD hS => ?_)
                replace hP : va_P D vwCl [((mm 5), .inl (k 0, 409, .inl (upd f_17 (0 : Int32).toNatClampNeg z_76))), ((mm 0), .inr (7, [.int (mf 0), .ref (mm 1), .ref (mm 2), .ref (mm 3), .ref (mm 4), .ref (mm 5), .int (mf 6), .int v_63, .int v_64, .int (mf 9), .int v_65, .int v_66, .int y_22, .int y_23, .int (mf 14), .int (mf 15), .int (mf 16), .ref (mm 6), .int (mf 18), .ref (mm 7), .ref (mm 8), .ref (mm 9), .int (mf 22), .ref (mm 10), .ref (mm 11), .int (mf 25), .int (mf 26), .ref (mm 12), .ref (mm 13), .int (mf 29), .ref (mm 14), .ref (mm 15), .ref (mm 16)])), ((mm 4), .inl (k 0, 900, .inl tf))] H := hP
                replace hD : va_D A [((mm 5), .inl (k 0, 409, .inl (upd f_17 (0 : Int32).toNatClampNeg z_76))), ((mm 0), .inr (7, [.int (mf 0), .ref (mm 1), .ref (mm 2), .ref (mm 3), .ref (mm 4), .ref (mm 5), .int (mf 6), .int v_63, .int v_64, .int (mf 9), .int v_65, .int v_66, .int y_22, .int y_23, .int (mf 14), .int (mf 15), .int (mf 16), .ref (mm 6), .int (mf 18), .ref (mm 7), .ref (mm 8), .ref (mm 9), .int (mf 22), .ref (mm 10), .ref (mm 11), .int (mf 25), .int (mf 26), .ref (mm 12), .ref (mm 13), .int (mf 29), .ref (mm 14), .ref (mm 15), .ref (mm 16)])), ((mm 4), .inl (k 0, 900, .inl tf))] := hD
                generalize ef_77 : (upd f_17 (0 : Int32).toNatClampNeg z_76) = f_77 at hP hD
                have hK_78 : FR y_22 f_77 := by rw [← ef_77]; exact FR_inc (show RoL y_22 z_1 i_16 f_17 from h_31) (by omega) (by omega) (by decide) (by omega)
                exact W.vret hx hb hr (fun t ht hW => ⟨⟨(v_63, v_64, v_65, v_66, y_22, y_23, f_77), rfl, ⟨(show 0 ≤ v_63.toInt ∧ v_63.toInt ≤ 900 from ⟨by omega, by omega⟩), (show 0 ≤ v_64.toInt ∧ v_64.toInt ≤ 900 from ⟨by omega, by omega⟩), (show v_63.toInt ≤ v_64.toInt from by omega), (show v_64.toInt ≤ (mf 9).toInt from by omega), (show v_65.toInt = 13 ∨ v_63.toInt < v_64.toInt from by omega), (show (mf 7).toInt ≤ v_63.toInt from by omega), (show FR y_22 f_77 from hK_78)⟩, by rw [ht]; exact hP.sub [1, 2, 0] rfl, hD.sub [1, 2, 0] (by decide) rfl⟩, hS.F ht⟩) hS.2.2 dX8_readRoof_100
            · have c_73 : r_61.toInt ≠ 0 := ti_ne c_73
              have qc_73 : r_61 = 1 := ti_of (show r_61.toInt = 1 from by omega)
              refine lv_aload_n hx hb dX8_readRoof_73 rfl (lv_at hl 2 rfl) ?_
              refine va_get (D := D) (ci := 7) (v := .ref (mm 5)) (C := RX8) (T := TX8) (N := 33) hx hb hts inlX8 hown hK hP 1 rfl rfl 5 (by decide) (hts _ mwn_95) (fun _ h9 => h9) rfl dX8_readRoof_74 ?_
              refine lv_bipush (v := 9) hx hb dX8_readRoof_77 (by decide) ?_
              refine lv_iload_n hx hb dX8_readRoof_79 rfl (lv_at hl 1 rfl) ?_
              refine lv_iadd hx hb dX8_readRoof_80 ?_
              refine lv_topi (fun z_79 ez_79 => ?_)
              have tz_79 : z_79.toInt = 9 + z_1.toInt := by rw [ez_79]; exact ti_addcl (by decide) (by omega) (by omega)
              refine lv_iconst (v := 1) hx hb dX8_readRoof_81 (by decide) ?_
              refine va_iast hx hb hK hP hD hS 0 0 rfl rfl (vp_in_o (by omega) (by omega)) dX8_readRoof_82 (fun H locs hP hD hS => ?_)
              replace hP : va_P D vwCl [((mm 5), .inl (k 0, 409, .inl (upd f_17 z_79.toNatClampNeg 1))), ((mm 0), .inr (7, [.int (mf 0), .ref (mm 1), .ref (mm 2), .ref (mm 3), .ref (mm 4), .ref (mm 5), .int (mf 6), .int v_63, .int v_64, .int (mf 9), .int v_65, .int v_66, .int y_22, .int y_23, .int (mf 14), .int (mf 15), .int (mf 16), .ref (mm 6), .int (mf 18), .ref (mm 7), .ref (mm 8), .ref (mm 9), .int (mf 22), .ref (mm 10), .ref (mm 11), .int (mf 25), .int (mf 26), .ref (mm 12), .ref (mm 13), .int (mf 29), .ref (mm 14), .ref (mm 15), .ref (mm 16)])), ((mm 4), .inl (k 0, 900, .inl tf))] H := hP
              replace hD : va_D A [((mm 5), .inl (k 0, 409, .inl (upd f_17 z_79.toNatClampNeg 1))), ((mm 0), .inr (7, [.int (mf 0), .ref (mm 1), .ref (mm 2), .ref (mm 3), .ref (mm 4), .ref (mm 5), .int (mf 6), .int v_63, .int v_64, .int (mf 9), .int v_65, .int v_66, .int y_22, .int y_23, .int (mf 14), .int (mf 15), .int (mf 16), .ref (mm 6), .int (mf 18), .ref (mm 7), .ref (mm 8), .ref (mm 9), .int (mf 22), .ref (mm 10), .ref (mm 11), .int (mf 25), .int (mf 26), .ref (mm 12), .ref (mm 13), .int (mf 29), .ref (mm 14), .ref (mm 15), .ref (mm 16)])), ((mm 4), .inl (k 0, 900, .inl tf))] := hD
              generalize ef_80 : (upd f_17 z_79.toNatClampNeg 1) = f_80 at hP hD
              have hK_81 : RoL y_22 z_1 i_16 f_80 := by rw [← ef_80]; exact RoL_put (show RoL y_22 z_1 i_16 f_17 from h_31) (by omega) (by omega) (by omega) (by omega) (by omega)
              refine lv_aload_n hx hb dX8_readRoof_83 rfl (lv_at hl 2 rfl) ?_
              refine va_get (D := D) (ci := 7) (v := .int y_22) (C := RX8) (T := TX8) (N := 33) hx hb hts inlX8 hown hK hP 1 rfl rfl 12 (by decide) (hts _ mwn_289) (fun _ h9 => h9) rfl dX8_readRoof_84 ?_
              refine lv_if_ne (tgt := 100) hx hb dX8_readRoof_87 (by decide) (fun c_82 => ?_) (fun c_82 => ?_)
              · have c_82 : y_22.toInt ≠ 0 := ti_ne c_82
                exact W.vret hx hb hr (fun t ht hW => ⟨⟨(v_63, v_64, v_65, v_66, y_22, y_23, f_80), rfl, ⟨(show 0 ≤ v_63.toInt ∧ v_63.toInt ≤ 900 from ⟨by omega, by omega⟩), (show 0 ≤ v_64.toInt ∧ v_64.toInt ≤ 900 from ⟨by omega, by omega⟩), (show v_63.toInt ≤ v_64.toInt from by omega), (show v_64.toInt ≤ (mf 9).toInt from by omega), (show v_65.toInt = 13 ∨ v_63.toInt < v_64.toInt from by omega), (show (mf 7).toInt ≤ v_63.toInt from by omega), (show FR y_22 f_80 from (by first | exact Or.inl (by omega)))⟩, by rw [ht]; exact hP.sub [1, 2, 0] rfl, hD.sub [1, 2, 0] (by decide) rfl⟩, hS.F ht⟩) hS.2.2 dX8_readRoof_100
              · have c_82 : y_22.toInt = 0 := ti_eq c_82
                have qc_82 : y_22 = 0 := ti_of (show y_22.toInt = 0 from by omega)
                refine lv_aload_n hx hb dX8_readRoof_90 rfl (lv_at hl 2 rfl) ?_
                refine va_get (D := D) (ci := 7) (v := .ref (mm 5)) (C := RX8) (T := TX8) (N := 33) hx hb hts inlX8 hown hK hP 1 rfl rfl 5 (by decide) (hts _ mwn_95) (fun _ h9 => h9) rfl dX8_readRoof_91 ?_
                refine lv_iconst (v := 0) hx hb dX8_readRoof_94 (by decide) ?_
                refine lv_dup2_11 hx hb dX8_readRoof_95 rfl rfl ?_
                refine va_iald hx hb hK hP 0 0 rfl rfl (vp_in_c (by decide)) dX8_readRoof_96 ?_
                refine lv_topi (fun z_83 ez_83 => ?_)
                have hz9 : z_83.toInt = z_1.toInt := RoL_n (show RoL y_22 z_1 i_16 f_80 from hK_81) (by omega) (by rw [ez_83]; rfl)
                refine lv_iconst (v := 1) hx hb dX8_readRoof_97 (by decide) ?_
                refine lv_iadd hx hb dX8_readRoof_98 ?_
                refine lv_topi (fun z_84 ez_84 => ?_)
                have tz_84 : z_84.toInt = z_83.toInt + 1 := by rw [ez_84]; exact ti_addc (by decide) (by omega) (by omega)
                refine va_iast hx hb hK hP hD hS 0 0 rfl rfl (vp_in_c (by decide)) dX8_readRoof_99 (fun H locs hP hD hS => ?_)
                replace hP : va_P D vwCl [((mm 5), .inl (k 0, 409, .inl (upd f_80 (0 : Int32).toNatClampNeg z_84))), ((mm 0), .inr (7, [.int (mf 0), .ref (mm 1), .ref (mm 2), .ref (mm 3), .ref (mm 4), .ref (mm 5), .int (mf 6), .int v_63, .int v_64, .int (mf 9), .int v_65, .int v_66, .int y_22, .int y_23, .int (mf 14), .int (mf 15), .int (mf 16), .ref (mm 6), .int (mf 18), .ref (mm 7), .ref (mm 8), .ref (mm 9), .int (mf 22), .ref (mm 10), .ref (mm 11), .int (mf 25), .int (mf 26), .ref (mm 12), .ref (mm 13), .int (mf 29), .ref (mm 14), .ref (mm 15), .ref (mm 16)])), ((mm 4), .inl (k 0, 900, .inl tf))] H := hP
                replace hD : va_D A [((mm 5), .inl (k 0, 409, .inl (upd f_80 (0 : Int32).toNatClampNeg z_84))), ((mm 0), .inr (7, [.int (mf 0), .ref (mm 1), .ref (mm 2), .ref (mm 3), .ref (mm 4), .ref (mm 5), .int (mf 6), .int v_63, .int v_64, .int (mf 9), .int v_65, .int v_66, .int y_22, .int y_23, .int (mf 14), .int (mf 15), .int (mf 16), .ref (mm 6), .int (mf 18), .ref (mm 7), .ref (mm 8), .ref (mm 9), .int (mf 22), .ref (mm 10), .ref (mm 11), .int (mf 25), .int (mf 26), .ref (mm 12), .ref (mm 13), .int (mf 29), .ref (mm 14), .ref (mm 15), .ref (mm 16)])), ((mm 4), .inl (k 0, 900, .inl tf))] := hD
                generalize ef_85 : (upd f_80 (0 : Int32).toNatClampNeg z_84) = f_85 at hP hD
                have hK_86 : FR y_22 f_85 := by rw [← ef_85]; exact FR_inc (show RoL y_22 z_1 i_16 f_80 from hK_81) (by omega) (by omega) (by decide) (by omega)
                exact W.vret hx hb hr (fun t ht hW => ⟨⟨(v_63, v_64, v_65, v_66, y_22, y_23, f_85), rfl, ⟨(show 0 ≤ v_63.toInt ∧ v_63.toInt ≤ 900 from ⟨by omega, by omega⟩), (show 0 ≤ v_64.toInt ∧ v_64.toInt ≤ 900 from ⟨by omega, by omega⟩), (show v_63.toInt ≤ v_64.toInt from by omega), (show v_64.toInt ≤ (mf 9).toInt from by omega), (show v_65.toInt = 13 ∨ v_63.toInt < v_64.toInt from by omega), (show (mf 7).toInt ≤ v_63.toInt from by omega), (show FR y_22 f_85 from hK_86)⟩, by rw [ht]; exact hP.sub [1, 2, 0] rfl, hD.sub [1, 2, 0] (by decide) rfl⟩, hS.F ht⟩) hS.2.2 dX8_readRoof_100
        · have c_54 : r_53.toInt ≠ 0 := ti_ne c_54
          have qc_54 : r_53 = 1 := ti_of (show r_53.toInt = 1 from by omega)
          have hd6_87 := RoL_d (show RoL y_22 z_1 i_16 f_17 from h_31) (by omega)
          refine lv_aload_n hx hb dX8_readRoof_48 rfl (lv_at hl 2 rfl) ?_
          refine lv_iload_n hx hb dX8_readRoof_49 rfl (lv_at hl 1 rfl) ?_
          refine lv_iload_n hx hb dX8_readRoof_50 rfl (lv_at hl 0 rfl) ?_
          refine kV_uvs (q0 := 0) (As := [.int z_1, .int i_16]) (rest := []) (wr := []) ⟨hx, hb, hml, hown, hts⟩ (s_M_readLayer l D k ak av _ (va_seli [(mf 0), 0, 0, 0, 0, 0, (mf 6), y_18, y_19, (mf 9), y_20, y_21, y_22, y_23, (mf 14), (mf 15), (mf 16), 0, (mf 18), 0, 0, 0, (mf 22), 0, 0, (mf 25), (mf 26), 0, 0, (mf 29)]) tf f_17 z_1 i_16 _ (show 0 ≤ y_18.toInt ∧ y_18.toInt ≤ 900 from ⟨by omega, by omega⟩) (show 0 ≤ y_19.toInt ∧ y_19.toInt ≤ 900 from ⟨by omega, by omega⟩) (show 0 ≤ (mf 9).toInt ∧ (mf 9).toInt ≤ 900 from ⟨by omega, by omega⟩) (show y_18.toInt ≤ y_19.toInt from by omega) (show y_19.toInt ≤ (mf 9).toInt from by omega) (show y_20.toInt = 13 ∨ y_18.toInt < y_19.toInt from by omega) (show y_22.toInt = 0 from by omega) (show 0 ≤ z_1.toInt ∧ z_1.toInt ≤ 9 from ⟨by omega, by omega⟩) (show 0 ≤ i_16.toInt ∧ i_16.toInt ≤ 6 from ⟨by omega, by omega⟩) (show RoL y_22 z_1 i_16 f_17 from h_31)) (gV mwn_335 mwn_336 mwn_337 mwn_5 mwn_338) hdn_yX8_readLayer rfl rfl ⟨Nat.le_of_ble_eq_true rfl, Nat.le_of_ble_eq_true rfl⟩ hK hN0 hW0 hS hP hD hS hA [1, 2, 0] [] rfl rfl (by decide) (by decide) (by decide) rfl rfl rfl rfl hl.1 rfl (Nat.le_of_ble_eq_true rfl) dX8_readRoof_51 ⟨Nat.le_of_ble_eq_true rfl, Nat.le_of_ble_eq_true rfl⟩ (fun u_89 H locs hw hP hD hS => ?_)
          obtain ⟨v_90, v_91, v_92, v_93, v_94, v_95, v_96⟩ := u_89
          obtain ⟨h_97, h_98, h_99, h_100, h_101, h_102, h_103⟩ := hw
          replace h_97 : 0 ≤ v_90.toInt ∧ v_90.toInt ≤ 900 := h_97
          replace h_98 : 0 ≤ v_91.toInt ∧ v_91.toInt ≤ 900 := h_98
          replace h_99 : v_90.toInt ≤ v_91.toInt := h_99
          replace h_100 : v_91.toInt ≤ (mf 9).toInt := h_100
          replace h_101 : v_92.toInt = 13 ∨ v_90.toInt < v_91.toInt := h_101
          replace h_102 : y_18.toInt ≤ v_90.toInt := h_102
          replace h_103 : RoL v_94 z_1 (i_16 + 1) v_96 := h_103
          replace hP : va_P D vwCl [((mm 0), .inr (7, [.int (mf 0), .ref (mm 1), .ref (mm 2), .ref (mm 3), .ref (mm 4), .ref (mm 5), .int (mf 6), .int v_90, .int v_91, .int (mf 9), .int v_92, .int v_93, .int v_94, .int v_95, .int (mf 14), .int (mf 15), .int (mf 16), .ref (mm 6), .int (mf 18), .ref (mm 7), .ref (mm 8), .ref (mm 9), .int (mf 22), .ref (mm 10), .ref (mm 11), .int (mf 25), .int (mf 26), .ref (mm 12), .ref (mm 13), .int (mf 29), .ref (mm 14), .ref (mm 15), .ref (mm 16)])), ((mm 4), .inl (k 0, 900, .inl tf)), ((mm 5), .inl (k 0, 409, .inl v_96))] H := hP
          replace hD : va_D A [((mm 0), .inr (7, [.int (mf 0), .ref (mm 1), .ref (mm 2), .ref (mm 3), .ref (mm 4), .ref (mm 5), .int (mf 6), .int v_90, .int v_91, .int (mf 9), .int v_92, .int v_93, .int v_94, .int v_95, .int (mf 14), .int (mf 15), .int (mf 16), .ref (mm 6), .int (mf 18), .ref (mm 7), .ref (mm 8), .ref (mm 9), .int (mf 22), .ref (mm 10), .ref (mm 11), .int (mf 25), .int (mf 26), .ref (mm 12), .ref (mm 13), .int (mf 29), .ref (mm 14), .ref (mm 15), .ref (mm 16)])), ((mm 4), .inl (k 0, 900, .inl tf)), ((mm 5), .inl (k 0, 409, .inl v_96))] := hD
          obtain ⟨z_104, ez_104⟩ : ∃ y : Int32, y = i_16 + 1 := ⟨_, rfl⟩
          have tz_104 : z_104.toInt = i_16.toInt + 1 := by rw [ez_104]; exact ti_addc (by decide) (by omega) (by omega)
          refine lv_iinc (v := z_104) (lv' := [(2, .int z_104), (1, .int z_1), (0, .ref (mm 0))]) hx hb dX8_readRoof_54 hl (k := 0) rfl (ez_104.symm) (by decide) rfl (fun ls hl => ?_)
          have hK_105 : RoL v_94 z_1 z_104 v_96 := by rw [ez_104]; exact h_103
          refine lv_goto (tgt := 32) hx hb dX8_readRoof_57 (by decide) ?_
          exact ih32 (z_104, v_96, v_90, v_91, v_92, v_93, v_94, v_95) _ _ ls (by show (7 - z_104.toInt).toNat < (7 - i_16.toInt).toNat; omega) ⟨(show 0 ≤ z_104.toInt ∧ z_104.toInt ≤ 7 from ⟨by omega, by omega⟩), (show 0 ≤ v_90.toInt ∧ v_90.toInt ≤ 900 from ⟨by omega, by omega⟩), (show 0 ≤ v_91.toInt ∧ v_91.toInt ≤ 900 from ⟨by omega, by omega⟩), (show v_90.toInt ≤ v_91.toInt from by omega), (show v_91.toInt ≤ (mf 9).toInt from by omega), (show v_92.toInt = 13 ∨ v_90.toInt < v_91.toInt from by omega), (show (mf 7).toInt ≤ v_90.toInt from by omega), (show RoL v_94 z_1 z_104 v_96 from hK_105), hP.sub [2, 0, 1] rfl, hD.sub [2, 0, 1] (by decide) rfl, hS, lv_sub hl [0, 1, 2] rfl⟩
    · have c_3 : (mf 12).toInt ≠ 0 := ti_ne c_3
      exact W.vret hx hb hr (fun t ht hW => ⟨⟨((mf 7), (mf 8), (mf 10), (mf 11), (mf 12), (mf 13), ef), rfl, ⟨(show 0 ≤ (mf 7).toInt ∧ (mf 7).toInt ≤ 900 from ⟨by omega, by omega⟩), (show 0 ≤ (mf 8).toInt ∧ (mf 8).toInt ≤ 900 from ⟨by omega, by omega⟩), (show (mf 7).toInt ≤ (mf 8).toInt from by omega), (show (mf 8).toInt ≤ (mf 9).toInt from by omega), (show (mf 10).toInt = 13 ∨ (mf 7).toInt < (mf 8).toInt from by omega), (show (mf 7).toInt ≤ (mf 7).toInt from by omega), (show FR (mf 12) ef from w_fr)⟩, by rw [ht]; exact hP.sub [0, 1, 2] rfl, hD.sub [0, 1, 2] (by decide) rfl⟩, hS.F ht⟩) hS.2.2 dX8_readRoof_25
  · have c_2 : z_1.toInt = 10 := ti_eq c_2
    have qc_2 : z_1 = 10 := ti_of (show z_1.toInt = 10 from by omega)
    refine lv_aload_n hx hb dX8_readRoof_13 rfl (lv_at hl 1 rfl) ?_
    refine lv_iconst (v := 4) hx hb dX8_readRoof_14 (by decide) ?_
    refine kV_uv (q0 := 0) (As := [.int 4]) (rest := []) (wr := [((mm 4), .inl (k 0, 900, .inl tf)), ((mm 5), .inl (k 0, 409, .inl ef))]) ⟨hx, hb, hml, hown, hts⟩ (s_M_fails l D k _ mf 4 _ (show 1 ≤ (4 : Int32).toInt ∧ (4 : Int32).toInt ≤ 4 from ⟨by decide, by decide⟩)) (gV mwn_331 mwn_332 mwn_333 mwn_5 mwn_334) hdn_yX8_fails rfl rfl ⟨Nat.le_of_ble_eq_true rfl, Nat.le_of_ble_eq_true rfl⟩ hK hN0 hP hD hS hA [0] [1, 2] rfl rfl (by decide) (by decide) (by decide) rfl rfl rfl rfl hl.1 rfl (Nat.le_of_ble_eq_true rfl) dX8_readRoof_15 ⟨Nat.le_of_ble_eq_true rfl, Nat.le_of_ble_eq_true rfl⟩ (fun u_107 H locs hw hP hD hS => ?_)
    obtain ⟨v_108, v_109⟩ := u_107
    have h_110 := hw
    replace h_110 : v_108.toInt ≠ 0 := h_110
    replace hP : va_P D vwCl [((mm 4), .inl (k 0, 900, .inl tf)), ((mm 5), .inl (k 0, 409, .inl ef)), ((mm 0), .inr (7, [.int (mf 0), .ref (mm 1), .ref (mm 2), .ref (mm 3), .ref (mm 4), .ref (mm 5), .int (mf 6), .int (mf 7), .int (mf 8), .int (mf 9), .int (mf 10), .int (mf 11), .int v_108, .int v_109, .int (mf 14), .int (mf 15), .int (mf 16), .ref (mm 6), .int (mf 18), .ref (mm 7), .ref (mm 8), .ref (mm 9), .int (mf 22), .ref (mm 10), .ref (mm 11), .int (mf 25), .int (mf 26), .ref (mm 12), .ref (mm 13), .int (mf 29), .ref (mm 14), .ref (mm 15), .ref (mm 16)]))] H := hP
    replace hD : va_D A [((mm 4), .inl (k 0, 900, .inl tf)), ((mm 5), .inl (k 0, 409, .inl ef)), ((mm 0), .inr (7, [.int (mf 0), .ref (mm 1), .ref (mm 2), .ref (mm 3), .ref (mm 4), .ref (mm 5), .int (mf 6), .int (mf 7), .int (mf 8), .int (mf 9), .int (mf 10), .int (mf 11), .int v_108, .int v_109, .int (mf 14), .int (mf 15), .int (mf 16), .ref (mm 6), .int (mf 18), .ref (mm 7), .ref (mm 8), .ref (mm 9), .int (mf 22), .ref (mm 10), .ref (mm 11), .int (mf 25), .int (mf 26), .ref (mm 12), .ref (mm 13), .int (mf 29), .ref (mm 14), .ref (mm 15), .ref (mm 16)]))] := hD
    refine lv_aload_n hx hb dX8_readRoof_18 rfl (lv_at hl 1 rfl) ?_
    refine va_get (D := D) (ci := 7) (v := .int v_108) (C := RX8) (T := TX8) (N := 33) hx hb hts inlX8 hown hK hP 2 rfl rfl 12 (by decide) (hts _ mwn_289) (fun _ h9 => h9) rfl dX8_readRoof_19 ?_
    refine lv_if_eq (tgt := 26) hx hb dX8_readRoof_22 (by decide) (fun c_111 => by have q := ti_eq c_111; have q : v_108.toInt = 0 := q; exfalso; omega) (fun c_111 => ?_)
    have c_111 : v_108.toInt ≠ 0 := ti_ne c_111
    exact W.vret hx hb hr (fun t ht hW => ⟨⟨((mf 7), (mf 8), (mf 10), (mf 11), v_108, v_109, ef), rfl, ⟨(show 0 ≤ (mf 7).toInt ∧ (mf 7).toInt ≤ 900 from ⟨by omega, by omega⟩), (show 0 ≤ (mf 8).toInt ∧ (mf 8).toInt ≤ 900 from ⟨by omega, by omega⟩), (show (mf 7).toInt ≤ (mf 8).toInt from by omega), (show (mf 8).toInt ≤ (mf 9).toInt from by omega), (show (mf 10).toInt = 13 ∨ (mf 7).toInt < (mf 8).toInt from by omega), (show (mf 7).toInt ≤ (mf 7).toInt from by omega), (show FR v_108 ef from (by first | exact Or.inl (by omega) | exact FR_w w_fr (by omega) | (rcases (show v_108.toInt ≠ 0 ∨ (mf 12).toInt = 0 from by omega) with q | q <;> first | exact Or.inl q | exact FR_w w_fr q)))⟩, by rw [ht]; exact hP.sub [2, 0, 1] rfl, hD.sub [2, 0, 1] (by decide) rfl⟩, hS.F ht⟩) hS.2.2 dX8_readRoof_25
set_option maxHeartbeats 4000000 in
set_option maxRecDepth 100000 in
theorem s_M_readLine (l : Launch) (D : va_G) (k : Nat → ClassId) (ak : Nat → Nat) (av : Nat → Nat) (mm : Nat → Nat) (mf : Nat → Int32) (tf : Nat → Int32) (ef : Nat → Int32) (sz : Nat) (w_t7 : 0 ≤ (mf 7).toInt ∧ (mf 7).toInt ≤ 900) (w_t8 : 0 ≤ (mf 8).toInt ∧ (mf 8).toInt ≤ 900) (w_t9 : 0 ≤ (mf 9).toInt ∧ (mf 9).toInt ≤ 900) (w_ta : (mf 7).toInt ≤ (mf 8).toInt) (w_tb : (mf 8).toInt ≤ (mf 9).toInt) (w_tc : (mf 10).toInt = 13 ∨ (mf 7).toInt < (mf 8).toInt) (w_fr : FR (mf 12) ef) : Met l yX8_readLine (Cond.code yX8_readLine cX8_readLine 1 none :: wsL_law) ({ frames := 9, cells := 0, slots := 0, locals := 540 } : Room) (va_Pc [.ref (mm 0)] (pus ak av D k sz [((mm 0), .inr (7, [.int (mf 0), .ref (mm 1), .ref (mm 2), .ref (mm 3), .ref (mm 4), .ref (mm 5), .int (mf 6), .int (mf 7), .int (mf 8), .int (mf 9), .int (mf 10), .int (mf 11), .int (mf 12), .int (mf 13), .int (mf 14), .int (mf 15), .int (mf 16), .ref (mm 6), .int (mf 18), .ref (mm 7), .ref (mm 8), .ref (mm 9), .int (mf 22), .ref (mm 10), .ref (mm 11), .int (mf 25), .int (mf 26), .ref (mm 12), .ref (mm 13), .int (mf 29), .ref (mm 14), .ref (mm 15), .ref (mm 16)])), ((mm 4), .inl (k 0, 900, .inl tf)), ((mm 5), .inl (k 0, 409, .inl ef))])) (va_Qv (fun uu : Int32 × Int32 × Int32 × Int32 × Int32 × Int32 × (Nat → Int32) => (0 ≤ uu.1.toInt ∧ uu.1.toInt ≤ 900) ∧ (0 ≤ uu.2.1.toInt ∧ uu.2.1.toInt ≤ 900) ∧ (uu.1.toInt ≤ uu.2.1.toInt) ∧ (uu.2.1.toInt ≤ (mf 9).toInt) ∧ (uu.2.2.1.toInt = 13 ∨ uu.1.toInt < uu.2.1.toInt) ∧ (uu.2.2.2.2.1.toInt ≠ 0 ∨ (mf 7).toInt < uu.1.toInt) ∧ (FR uu.2.2.2.2.1 uu.2.2.2.2.2.2)) (qu D (va_A [((mm 0), .inr (7, [.int (mf 0), .ref (mm 1), .ref (mm 2), .ref (mm 3), .ref (mm 4), .ref (mm 5), .int (mf 6), .int (mf 7), .int (mf 8), .int (mf 9), .int (mf 10), .int (mf 11), .int (mf 12), .int (mf 13), .int (mf 14), .int (mf 15), .int (mf 16), .ref (mm 6), .int (mf 18), .ref (mm 7), .ref (mm 8), .ref (mm 9), .int (mf 22), .ref (mm 10), .ref (mm 11), .int (mf 25), .int (mf 26), .ref (mm 12), .ref (mm 13), .int (mf 29), .ref (mm 14), .ref (mm 15), .ref (mm 16)])), ((mm 4), .inl (k 0, 900, .inl tf)), ((mm 5), .inl (k 0, 409, .inl ef))] sz) (fun uu : Int32 × Int32 × Int32 × Int32 × Int32 × Int32 × (Nat → Int32) => [((mm 0), .inr (7, [.int (mf 0), .ref (mm 1), .ref (mm 2), .ref (mm 3), .ref (mm 4), .ref (mm 5), .int (mf 6), .int uu.1, .int uu.2.1, .int (mf 9), .int uu.2.2.1, .int uu.2.2.2.1, .int uu.2.2.2.2.1, .int uu.2.2.2.2.2.1, .int (mf 14), .int (mf 15), .int (mf 16), .ref (mm 6), .int (mf 18), .ref (mm 7), .ref (mm 8), .ref (mm 9), .int (mf 22), .ref (mm 10), .ref (mm 11), .int (mf 25), .int (mf 26), .ref (mm 12), .ref (mm 13), .int (mf 29), .ref (mm 14), .ref (mm 15), .ref (mm 16)])), ((mm 4), .inl (k 0, 900, .inl tf)), ((mm 5), .inl (k 0, 409, .inl uu.2.2.2.2.2.2))])) (va_A [((mm 0), .inr (7, [.int (mf 0), .ref (mm 1), .ref (mm 2), .ref (mm 3), .ref (mm 4), .ref (mm 5), .int (mf 6), .int (mf 7), .int (mf 8), .int (mf 9), .int (mf 10), .int (mf 11), .int (mf 12), .int (mf 13), .int (mf 14), .int (mf 15), .int (mf 16), .ref (mm 6), .int (mf 18), .ref (mm 7), .ref (mm 8), .ref (mm 9), .int (mf 22), .ref (mm 10), .ref (mm 11), .int (mf 25), .int (mf 26), .ref (mm 12), .ref (mm 13), .int (mf 29), .ref (mm 14), .ref (mm 15), .ref (mm 16)])), ((mm 4), .inl (k 0, 900, .inl tf)), ((mm 5), .inl (k 0, 409, .inl ef))] sz)) 0 0 (va_A [((mm 0), .inr (7, [.int (mf 0), .ref (mm 1), .ref (mm 2), .ref (mm 3), .ref (mm 4), .ref (mm 5), .int (mf 6), .int (mf 7), .int (mf 8), .int (mf 9), .int (mf 10), .int (mf 11), .int (mf 12), .int (mf 13), .int (mf 14), .int (mf 15), .int (mf 16), .ref (mm 6), .int (mf 18), .ref (mm 7), .ref (mm 8), .ref (mm 9), .int (mf 22), .ref (mm 10), .ref (mm 11), .int (mf 25), .int (mf 26), .ref (mm 12), .ref (mm 13), .int (mf 29), .ref (mm 14), .ref (mm 15), .ref (mm 16)])), ((mm 4), .inl (k 0, 900, .inl tf)), ((mm 5), .inl (k 0, 409, .inl ef))] sz) := by
  refine Met.ofW (cc := cX8_readLine) (maxL := 1) (ret := none) (by decide) rfl ?_
  intro p e s m args below meth c s₁ B hml hv
  obtain ⟨rfl, hsz, hP, hK, hD0, hN0, hW0⟩ := hv
  have hx := B.exec
  have hb := B.bytes
  have hr := B.returns
  have hts : ∀ w ∈ wsL_law, w.before _ s = true := fun w h => atoms_spec (ws := Cond.code yX8_readLine cX8_readLine 1 none :: wsL_law) B.pre w (List.mem_cons_of_mem _ h)
  have hown : s.vm.findClass RX8 = some m.cls := findClass_of_methodNamed B.named
  have hlocks := B.notSynchronized
  subst hsz
  have hD := hD0.self (sz := s.heap.size)
  generalize hAe : va_A [((mm 0), .inr (7, [.int (mf 0), .ref (mm 1), .ref (mm 2), .ref (mm 3), .ref (mm 4), .ref (mm 5), .int (mf 6), .int (mf 7), .int (mf 8), .int (mf 9), .int (mf 10), .int (mf 11), .int (mf 12), .int (mf 13), .int (mf 14), .int (mf 15), .int (mf 16), .ref (mm 6), .int (mf 18), .ref (mm 7), .ref (mm 8), .ref (mm 9), .int (mf 22), .ref (mm 10), .ref (mm 11), .int (mf 25), .int (mf 26), .ref (mm 12), .ref (mm 13), .int (mf 29), .ref (mm 14), .ref (mm 15), .ref (mm 16)])), ((mm 4), .inl (k 0, 900, .inl tf)), ((mm 5), .inl (k 0, 409, .inl ef))] s.heap.size = A at hD hW0 ⊢
  have hA : ∀ q : Nat, s.heap.size ≤ q → A q := fun q h => by rw [← hAe]; exact Or.inr h
  have hS : va_S A s.heap s.heap [] := va_S.rf
  replace hP : va_P D vwCl [((mm 0), .inr (7, [.int (mf 0), .ref (mm 1), .ref (mm 2), .ref (mm 3), .ref (mm 4), .ref (mm 5), .int (mf 6), .int (mf 7), .int (mf 8), .int (mf 9), .int (mf 10), .int (mf 11), .int (mf 12), .int (mf 13), .int (mf 14), .int (mf 15), .int (mf 16), .ref (mm 6), .int (mf 18), .ref (mm 7), .ref (mm 8), .ref (mm 9), .int (mf 22), .ref (mm 10), .ref (mm 11), .int (mf 25), .int (mf 26), .ref (mm 12), .ref (mm 13), .int (mf 29), .ref (mm 14), .ref (mm 15), .ref (mm 16)])), ((mm 4), .inl (k 0, 900, .inl tf)), ((mm 5), .inl (k 0, 409, .inl ef))] s.heap := hP
  have hl := lv_entry ([.ref (mm 0)]) (n := 1) (Nat.le_of_ble_eq_true rfl)
  rw [lg_entry_eq]
  generalize (lg_sl ([.ref (mm 0)]) ++ List.replicate (1 - (lg_sl ([.ref (mm 0)])).length) Slot.unset).toArray = ls at hl ⊢
  replace hl : lv_has ls 1 [(0, .ref (mm 0))] := hl
  refine lv_aload_n hx hb dX8_readLine_0 rfl (lv_at hl 0 rfl) ?_
  refine lv_iconst (v := 0) hx hb dX8_readLine_1 (by decide) ?_
  refine kV_i (q0 := 0) (As := [.int 0]) (rest := []) ⟨hx, hb, hml, hown, hts⟩ (s_M_is l D k _ mf 0) (gV mwn_323 mwn_324 mwn_325 mwn_5 mwn_326) hdn_yX8_is rfl rfl ⟨Nat.le_of_ble_eq_true rfl, Nat.le_of_ble_eq_true rfl⟩ hK hN0 (hP.sub [0] rfl) rfl rfl rfl rfl hl.1 rfl (Nat.le_of_ble_eq_true rfl) dX8_readLine_2 ⟨Nat.le_of_ble_eq_true rfl, Nat.le_of_ble_eq_true rfl⟩ (fun r_1 hr_1 => ?_)
  replace hr_1 : r_1.toInt = 0 ∨ (r_1.toInt = 1 ∧ (mf 12).toInt = 0 ∧ (mf 10).toInt = 0) := hr_1
  refine lv_if_eq (tgt := 15) hx hb dX8_readLine_5 (by decide) (fun c_2 => ?_) (fun c_2 => ?_)
  · have c_2 : r_1.toInt = 0 := ti_eq c_2
    have qc_2 : r_1 = 0 := ti_of (show r_1.toInt = 0 from by omega)
    refine lv_aload_n hx hb dX8_readLine_15 rfl (lv_at hl 0 rfl) ?_
    refine lv_bipush (v := 7) hx hb dX8_readLine_16 (by decide) ?_
    refine kV_uis (q0 := 0) (As := [.int 7]) (rest := []) (wr := [((mm 5), .inl (k 0, 409, .inl ef))]) ⟨hx, hb, hml, hown, hts⟩ (s_M_eats l D k ak av _ mf tf 7 _ (show 0 ≤ (mf 7).toInt ∧ (mf 7).toInt ≤ 900 from ⟨by omega, by omega⟩) (show 0 ≤ (mf 8).toInt ∧ (mf 8).toInt ≤ 900 from ⟨by omega, by omega⟩) (show 0 ≤ (mf 9).toInt ∧ (mf 9).toInt ≤ 900 from ⟨by omega, by omega⟩) (show (mf 7).toInt ≤ (mf 8).toInt from by omega) (show (mf 8).toInt ≤ (mf 9).toInt from by omega) (show (mf 10).toInt = 13 ∨ (mf 7).toInt < (mf 8).toInt from by omega)) (gV mwn_343 mwn_344 mwn_345 mwn_5 mwn_346) hdn_yX8_eats rfl rfl ⟨Nat.le_of_ble_eq_true rfl, Nat.le_of_ble_eq_true rfl⟩ hK hN0 hW0 hS hP hD hS hA [0, 1] [2] rfl rfl (by decide) (by decide) (by decide) rfl rfl rfl rfl hl.1 rfl (Nat.le_of_ble_eq_true rfl) dX8_readLine_18 ⟨Nat.le_of_ble_eq_true rfl, Nat.le_of_ble_eq_true rfl⟩ (fun r_3 u_4 H locs hw hP hD hS => ?_)
    obtain ⟨v_5, v_6, v_7, v_8⟩ := u_4
    obtain ⟨hr_3, h_9, h_10, h_11, h_12, h_13, h_14⟩ := hw
    replace h_9 : 0 ≤ v_5.toInt ∧ v_5.toInt ≤ 900 := h_9
    replace h_10 : 0 ≤ v_6.toInt ∧ v_6.toInt ≤ 900 := h_10
    replace h_11 : v_5.toInt ≤ v_6.toInt := h_11
    replace h_12 : v_6.toInt ≤ (mf 9).toInt := h_12
    replace h_13 : v_7.toInt = 13 ∨ v_5.toInt < v_6.toInt := h_13
    replace h_14 : (mf 7).toInt ≤ v_5.toInt := h_14
    replace hP : va_P D vwCl [((mm 5), .inl (k 0, 409, .inl ef)), ((mm 0), .inr (7, [.int (mf 0), .ref (mm 1), .ref (mm 2), .ref (mm 3), .ref (mm 4), .ref (mm 5), .int (mf 6), .int v_5, .int v_6, .int (mf 9), .int v_7, .int v_8, .int (mf 12), .int (mf 13), .int (mf 14), .int (mf 15), .int (mf 16), .ref (mm 6), .int (mf 18), .ref (mm 7), .ref (mm 8), .ref (mm 9), .int (mf 22), .ref (mm 10), .ref (mm 11), .int (mf 25), .int (mf 26), .ref (mm 12), .ref (mm 13), .int (mf 29), .ref (mm 14), .ref (mm 15), .ref (mm 16)])), ((mm 4), .inl (k 0, 900, .inl tf))] H := hP
    replace hD : va_D A [((mm 5), .inl (k 0, 409, .inl ef)), ((mm 0), .inr (7, [.int (mf 0), .ref (mm 1), .ref (mm 2), .ref (mm 3), .ref (mm 4), .ref (mm 5), .int (mf 6), .int v_5, .int v_6, .int (mf 9), .int v_7, .int v_8, .int (mf 12), .int (mf 13), .int (mf 14), .int (mf 15), .int (mf 16), .ref (mm 6), .int (mf 18), .ref (mm 7), .ref (mm 8), .ref (mm 9), .int (mf 22), .ref (mm 10), .ref (mm 11), .int (mf 25), .int (mf 26), .ref (mm 12), .ref (mm 13), .int (mf 29), .ref (mm 14), .ref (mm 15), .ref (mm 16)])), ((mm 4), .inl (k 0, 900, .inl tf))] := hD
    replace hr_3 : r_3.toInt = 0 ∨ (r_3.toInt = 1 ∧ (mf 12).toInt = 0 ∧ (mf 10).toInt = 7 ∧ (mf 8).toInt ≤ v_5.toInt) := hr_3
    refine lv_if_eq (tgt := 35) hx hb dX8_readLine_21 (by decide) (fun c_15 => ?_) (fun c_15 => ?_)
    · have c_15 : r_3.toInt = 0 := ti_eq c_15
      have qc_15 : r_3 = 0 := ti_of (show r_3.toInt = 0 from by omega)
      refine lv_aload_n hx hb dX8_readLine_35 rfl (lv_at hl 0 rfl) ?_
      refine lv_bipush (v := 8) hx hb dX8_readLine_36 (by decide) ?_
      refine kV_i (q0 := 0) (As := [.int 8]) (rest := []) ⟨hx, hb, hml, hown, hts⟩ (s_M_is l D k _ (va_seli [(mf 0), 0, 0, 0, 0, 0, (mf 6), v_5, v_6, (mf 9), v_7, v_8, (mf 12), (mf 13), (mf 14), (mf 15), (mf 16), 0, (mf 18), 0, 0, 0, (mf 22), 0, 0, (mf 25), (mf 26), 0, 0, (mf 29)]) 8) (gV mwn_323 mwn_324 mwn_325 mwn_5 mwn_326) hdn_yX8_is rfl rfl ⟨Nat.le_of_ble_eq_true rfl, Nat.le_of_ble_eq_true rfl⟩ hK hN0 (hP.sub [1] rfl) rfl rfl rfl rfl hl.1 rfl (Nat.le_of_ble_eq_true rfl) dX8_readLine_38 ⟨Nat.le_of_ble_eq_true rfl, Nat.le_of_ble_eq_true rfl⟩ (fun r_16 hr_16 => ?_)
      replace hr_16 : r_16.toInt = 0 ∨ (r_16.toInt = 1 ∧ (mf 12).toInt = 0 ∧ v_7.toInt = 8) := hr_16
      refine lv_if_eq (tgt := 73) hx hb dX8_readLine_41 (by decide) (fun c_17 => ?_) (fun c_17 => ?_)
      · have c_17 : r_16.toInt = 0 := ti_eq c_17
        have qc_17 : r_16 = 0 := ti_of (show r_16.toInt = 0 from by omega)
        refine lv_aload_n hx hb dX8_readLine_73 rfl (lv_at hl 0 rfl) ?_
        refine lv_iconst (v := 1) hx hb dX8_readLine_74 (by decide) ?_
        refine kV_uis (q0 := 0) (As := [.int 1]) (rest := []) (wr := [((mm 5), .inl (k 0, 409, .inl ef))]) ⟨hx, hb, hml, hown, hts⟩ (s_M_eats l D k ak av _ (va_seli [(mf 0), 0, 0, 0, 0, 0, (mf 6), v_5, v_6, (mf 9), v_7, v_8, (mf 12), (mf 13), (mf 14), (mf 15), (mf 16), 0, (mf 18), 0, 0, 0, (mf 22), 0, 0, (mf 25), (mf 26), 0, 0, (mf 29)]) tf 1 _ (show 0 ≤ v_5.toInt ∧ v_5.toInt ≤ 900 from ⟨by omega, by omega⟩) (show 0 ≤ v_6.toInt ∧ v_6.toInt ≤ 900 from ⟨by omega, by omega⟩) (show 0 ≤ (mf 9).toInt ∧ (mf 9).toInt ≤ 900 from ⟨by omega, by omega⟩) (show v_5.toInt ≤ v_6.toInt from by omega) (show v_6.toInt ≤ (mf 9).toInt from by omega) (show v_7.toInt = 13 ∨ v_5.toInt < v_6.toInt from by omega)) (gV mwn_343 mwn_344 mwn_345 mwn_5 mwn_346) hdn_yX8_eats rfl rfl ⟨Nat.le_of_ble_eq_true rfl, Nat.le_of_ble_eq_true rfl⟩ hK hN0 hW0 hS hP hD hS hA [1, 2] [0] rfl rfl (by decide) (by decide) (by decide) rfl rfl rfl rfl hl.1 rfl (Nat.le_of_ble_eq_true rfl) dX8_readLine_75 ⟨Nat.le_of_ble_eq_true rfl, Nat.le_of_ble_eq_true rfl⟩ (fun r_18 u_19 H locs hw hP hD hS => ?_)
        obtain ⟨v_20, v_21, v_22, v_23⟩ := u_19
        obtain ⟨hr_18, h_24, h_25, h_26, h_27, h_28, h_29⟩ := hw
        replace h_24 : 0 ≤ v_20.toInt ∧ v_20.toInt ≤ 900 := h_24
        replace h_25 : 0 ≤ v_21.toInt ∧ v_21.toInt ≤ 900 := h_25
        replace h_26 : v_20.toInt ≤ v_21.toInt := h_26
        replace h_27 : v_21.toInt ≤ (mf 9).toInt := h_27
        replace h_28 : v_22.toInt = 13 ∨ v_20.toInt < v_21.toInt := h_28
        replace h_29 : v_5.toInt ≤ v_20.toInt := h_29
        replace hP : va_P D vwCl [((mm 5), .inl (k 0, 409, .inl ef)), ((mm 0), .inr (7, [.int (mf 0), .ref (mm 1), .ref (mm 2), .ref (mm 3), .ref (mm 4), .ref (mm 5), .int (mf 6), .int v_20, .int v_21, .int (mf 9), .int v_22, .int v_23, .int (mf 12), .int (mf 13), .int (mf 14), .int (mf 15), .int (mf 16), .ref (mm 6), .int (mf 18), .ref (mm 7), .ref (mm 8), .ref (mm 9), .int (mf 22), .ref (mm 10), .ref (mm 11), .int (mf 25), .int (mf 26), .ref (mm 12), .ref (mm 13), .int (mf 29), .ref (mm 14), .ref (mm 15), .ref (mm 16)])), ((mm 4), .inl (k 0, 900, .inl tf))] H := hP
        replace hD : va_D A [((mm 5), .inl (k 0, 409, .inl ef)), ((mm 0), .inr (7, [.int (mf 0), .ref (mm 1), .ref (mm 2), .ref (mm 3), .ref (mm 4), .ref (mm 5), .int (mf 6), .int v_20, .int v_21, .int (mf 9), .int v_22, .int v_23, .int (mf 12), .int (mf 13), .int (mf 14), .int (mf 15), .int (mf 16), .ref (mm 6), .int (mf 18), .ref (mm 7), .ref (mm 8), .ref (mm 9), .int (mf 22), .ref (mm 10), .ref (mm 11), .int (mf 25), .int (mf 26), .ref (mm 12), .ref (mm 13), .int (mf 29), .ref (mm 14), .ref (mm 15), .ref (mm 16)])), ((mm 4), .inl (k 0, 900, .inl tf))] := hD
        replace hr_18 : r_18.toInt = 0 ∨ (r_18.toInt = 1 ∧ (mf 12).toInt = 0 ∧ v_7.toInt = 1 ∧ v_6.toInt ≤ v_20.toInt) := hr_18
        refine lv_if_eq (tgt := 110) hx hb dX8_readLine_78 (by decide) (fun c_30 => ?_) (fun c_30 => ?_)
        · have c_30 : r_18.toInt = 0 := ti_eq c_30
          have qc_30 : r_18 = 0 := ti_of (show r_18.toInt = 0 from by omega)
          refine lv_aload_n hx hb dX8_readLine_110 rfl (lv_at hl 0 rfl) ?_
          refine lv_bipush (v := 9) hx hb dX8_readLine_111 (by decide) ?_
          refine kV_uis (q0 := 0) (As := [.int 9]) (rest := []) (wr := [((mm 5), .inl (k 0, 409, .inl ef))]) ⟨hx, hb, hml, hown, hts⟩ (s_M_eats l D k ak av _ (va_seli [(mf 0), 0, 0, 0, 0, 0, (mf 6), v_20, v_21, (mf 9), v_22, v_23, (mf 12), (mf 13), (mf 14), (mf 15), (mf 16), 0, (mf 18), 0, 0, 0, (mf 22), 0, 0, (mf 25), (mf 26), 0, 0, (mf 29)]) tf 9 _ (show 0 ≤ v_20.toInt ∧ v_20.toInt ≤ 900 from ⟨by omega, by omega⟩) (show 0 ≤ v_21.toInt ∧ v_21.toInt ≤ 900 from ⟨by omega, by omega⟩) (show 0 ≤ (mf 9).toInt ∧ (mf 9).toInt ≤ 900 from ⟨by omega, by omega⟩) (show v_20.toInt ≤ v_21.toInt from by omega) (show v_21.toInt ≤ (mf 9).toInt from by omega) (show v_22.toInt = 13 ∨ v_20.toInt < v_21.toInt from by omega)) (gV mwn_343 mwn_344 mwn_345 mwn_5 mwn_346) hdn_yX8_eats rfl rfl ⟨Nat.le_of_ble_eq_true rfl, Nat.le_of_ble_eq_true rfl⟩ hK hN0 hW0 hS hP hD hS hA [1, 2] [0] rfl rfl (by decide) (by decide) (by decide) rfl rfl rfl rfl hl.1 rfl (Nat.le_of_ble_eq_true rfl) dX8_readLine_113 ⟨Nat.le_of_ble_eq_true rfl, Nat.le_of_ble_eq_true rfl⟩ (fun r_31 u_32 H locs hw hP hD hS => ?_)
          obtain ⟨v_33, v_34, v_35, v_36⟩ := u_32
          obtain ⟨hr_31, h_37, h_38, h_39, h_40, h_41, h_42⟩ := hw
          replace h_37 : 0 ≤ v_33.toInt ∧ v_33.toInt ≤ 900 := h_37
          replace h_38 : 0 ≤ v_34.toInt ∧ v_34.toInt ≤ 900 := h_38
          replace h_39 : v_33.toInt ≤ v_34.toInt := h_39
          replace h_40 : v_34.toInt ≤ (mf 9).toInt := h_40
          replace h_41 : v_35.toInt = 13 ∨ v_33.toInt < v_34.toInt := h_41
          replace h_42 : v_20.toInt ≤ v_33.toInt := h_42
          replace hP : va_P D vwCl [((mm 5), .inl (k 0, 409, .inl ef)), ((mm 0), .inr (7, [.int (mf 0), .ref (mm 1), .ref (mm 2), .ref (mm 3), .ref (mm 4), .ref (mm 5), .int (mf 6), .int v_33, .int v_34, .int (mf 9), .int v_35, .int v_36, .int (mf 12), .int (mf 13), .int (mf 14), .int (mf 15), .int (mf 16), .ref (mm 6), .int (mf 18), .ref (mm 7), .ref (mm 8), .ref (mm 9), .int (mf 22), .ref (mm 10), .ref (mm 11), .int (mf 25), .int (mf 26), .ref (mm 12), .ref (mm 13), .int (mf 29), .ref (mm 14), .ref (mm 15), .ref (mm 16)])), ((mm 4), .inl (k 0, 900, .inl tf))] H := hP
          replace hD : va_D A [((mm 5), .inl (k 0, 409, .inl ef)), ((mm 0), .inr (7, [.int (mf 0), .ref (mm 1), .ref (mm 2), .ref (mm 3), .ref (mm 4), .ref (mm 5), .int (mf 6), .int v_33, .int v_34, .int (mf 9), .int v_35, .int v_36, .int (mf 12), .int (mf 13), .int (mf 14), .int (mf 15), .int (mf 16), .ref (mm 6), .int (mf 18), .ref (mm 7), .ref (mm 8), .ref (mm 9), .int (mf 22), .ref (mm 10), .ref (mm 11), .int (mf 25), .int (mf 26), .ref (mm 12), .ref (mm 13), .int (mf 29), .ref (mm 14), .ref (mm 15), .ref (mm 16)])), ((mm 4), .inl (k 0, 900, .inl tf))] := hD
          replace hr_31 : r_31.toInt = 0 ∨ (r_31.toInt = 1 ∧ (mf 12).toInt = 0 ∧ v_22.toInt = 9 ∧ v_21.toInt ≤ v_33.toInt) := hr_31
          refine lv_if_eq (tgt := 135) hx hb dX8_readLine_116 (by decide) (fun c_43 => ?_) (fun c_43 => ?_)
          · have c_43 : r_31.toInt = 0 := ti_eq c_43
            have qc_43 : r_31 = 0 := ti_of (show r_31.toInt = 0 from by omega)
            refine lv_aload_n hx hb dX8_readLine_135 rfl (lv_at hl 0 rfl) ?_
            refine lv_iconst (v := 2) hx hb dX8_readLine_136 (by decide) ?_
            refine kV_uv (q0 := 0) (As := [.int 2]) (rest := []) (wr := [((mm 5), .inl (k 0, 409, .inl ef)), ((mm 4), .inl (k 0, 900, .inl tf))]) ⟨hx, hb, hml, hown, hts⟩ (s_M_fails l D k _ (va_seli [(mf 0), 0, 0, 0, 0, 0, (mf 6), v_33, v_34, (mf 9), v_35, v_36, (mf 12), (mf 13), (mf 14), (mf 15), (mf 16), 0, (mf 18), 0, 0, 0, (mf 22), 0, 0, (mf 25), (mf 26), 0, 0, (mf 29)]) 2 _ (show 1 ≤ (2 : Int32).toInt ∧ (2 : Int32).toInt ≤ 4 from ⟨by decide, by decide⟩)) (gV mwn_331 mwn_332 mwn_333 mwn_5 mwn_334) hdn_yX8_fails rfl rfl ⟨Nat.le_of_ble_eq_true rfl, Nat.le_of_ble_eq_true rfl⟩ hK hN0 hP hD hS hA [1] [0, 2] rfl rfl (by decide) (by decide) (by decide) rfl rfl rfl rfl hl.1 rfl (Nat.le_of_ble_eq_true rfl) dX8_readLine_137 ⟨Nat.le_of_ble_eq_true rfl, Nat.le_of_ble_eq_true rfl⟩ (fun u_45 H locs hw hP hD hS => ?_)
            obtain ⟨v_46, v_47⟩ := u_45
            have h_48 := hw
            replace h_48 : v_46.toInt ≠ 0 := h_48
            replace hP : va_P D vwCl [((mm 5), .inl (k 0, 409, .inl ef)), ((mm 4), .inl (k 0, 900, .inl tf)), ((mm 0), .inr (7, [.int (mf 0), .ref (mm 1), .ref (mm 2), .ref (mm 3), .ref (mm 4), .ref (mm 5), .int (mf 6), .int v_33, .int v_34, .int (mf 9), .int v_35, .int v_36, .int v_46, .int v_47, .int (mf 14), .int (mf 15), .int (mf 16), .ref (mm 6), .int (mf 18), .ref (mm 7), .ref (mm 8), .ref (mm 9), .int (mf 22), .ref (mm 10), .ref (mm 11), .int (mf 25), .int (mf 26), .ref (mm 12), .ref (mm 13), .int (mf 29), .ref (mm 14), .ref (mm 15), .ref (mm 16)]))] H := hP
            replace hD : va_D A [((mm 5), .inl (k 0, 409, .inl ef)), ((mm 4), .inl (k 0, 900, .inl tf)), ((mm 0), .inr (7, [.int (mf 0), .ref (mm 1), .ref (mm 2), .ref (mm 3), .ref (mm 4), .ref (mm 5), .int (mf 6), .int v_33, .int v_34, .int (mf 9), .int v_35, .int v_36, .int v_46, .int v_47, .int (mf 14), .int (mf 15), .int (mf 16), .ref (mm 6), .int (mf 18), .ref (mm 7), .ref (mm 8), .ref (mm 9), .int (mf 22), .ref (mm 10), .ref (mm 11), .int (mf 25), .int (mf 26), .ref (mm 12), .ref (mm 13), .int (mf 29), .ref (mm 14), .ref (mm 15), .ref (mm 16)]))] := hD
            refine lv_aload_n hx hb dX8_readLine_140 rfl (lv_at hl 0 rfl) ?_
            refine lv_bipush (v := 12) hx hb dX8_readLine_141 (by decide) ?_
            refine kV_uis (q0 := 0) (As := [.int 12]) (rest := []) (wr := [((mm 5), .inl (k 0, 409, .inl ef))]) ⟨hx, hb, hml, hown, hts⟩ (s_M_eats l D k ak av _ (va_seli [(mf 0), 0, 0, 0, 0, 0, (mf 6), v_33, v_34, (mf 9), v_35, v_36, v_46, v_47, (mf 14), (mf 15), (mf 16), 0, (mf 18), 0, 0, 0, (mf 22), 0, 0, (mf 25), (mf 26), 0, 0, (mf 29)]) tf 12 _ (show 0 ≤ v_33.toInt ∧ v_33.toInt ≤ 900 from ⟨by omega, by omega⟩) (show 0 ≤ v_34.toInt ∧ v_34.toInt ≤ 900 from ⟨by omega, by omega⟩) (show 0 ≤ (mf 9).toInt ∧ (mf 9).toInt ≤ 900 from ⟨by omega, by omega⟩) (show v_33.toInt ≤ v_34.toInt from by omega) (show v_34.toInt ≤ (mf 9).toInt from by omega) (show v_35.toInt = 13 ∨ v_33.toInt < v_34.toInt from by omega)) (gV mwn_343 mwn_344 mwn_345 mwn_5 mwn_346) hdn_yX8_eats rfl rfl ⟨Nat.le_of_ble_eq_true rfl, Nat.le_of_ble_eq_true rfl⟩ hK hN0 hW0 hS hP hD hS hA [2, 1] [0] rfl rfl (by decide) (by decide) (by decide) rfl rfl rfl rfl hl.1 rfl (Nat.le_of_ble_eq_true rfl) dX8_readLine_143 ⟨Nat.le_of_ble_eq_true rfl, Nat.le_of_ble_eq_true rfl⟩ (fun r_49 u_50 H locs hw hP hD hS => ?_)
            obtain ⟨v_51, v_52, v_53, v_54⟩ := u_50
            obtain ⟨hr_49, h_55, h_56, h_57, h_58, h_59, h_60⟩ := hw
            replace h_55 : 0 ≤ v_51.toInt ∧ v_51.toInt ≤ 900 := h_55
            replace h_56 : 0 ≤ v_52.toInt ∧ v_52.toInt ≤ 900 := h_56
            replace h_57 : v_51.toInt ≤ v_52.toInt := h_57
            replace h_58 : v_52.toInt ≤ (mf 9).toInt := h_58
            replace h_59 : v_53.toInt = 13 ∨ v_51.toInt < v_52.toInt := h_59
            replace h_60 : v_33.toInt ≤ v_51.toInt := h_60
            replace hP : va_P D vwCl [((mm 5), .inl (k 0, 409, .inl ef)), ((mm 0), .inr (7, [.int (mf 0), .ref (mm 1), .ref (mm 2), .ref (mm 3), .ref (mm 4), .ref (mm 5), .int (mf 6), .int v_51, .int v_52, .int (mf 9), .int v_53, .int v_54, .int v_46, .int v_47, .int (mf 14), .int (mf 15), .int (mf 16), .ref (mm 6), .int (mf 18), .ref (mm 7), .ref (mm 8), .ref (mm 9), .int (mf 22), .ref (mm 10), .ref (mm 11), .int (mf 25), .int (mf 26), .ref (mm 12), .ref (mm 13), .int (mf 29), .ref (mm 14), .ref (mm 15), .ref (mm 16)])), ((mm 4), .inl (k 0, 900, .inl tf))] H := hP
            replace hD : va_D A [((mm 5), .inl (k 0, 409, .inl ef)), ((mm 0), .inr (7, [.int (mf 0), .ref (mm 1), .ref (mm 2), .ref (mm 3), .ref (mm 4), .ref (mm 5), .int (mf 6), .int v_51, .int v_52, .int (mf 9), .int v_53, .int v_54, .int v_46, .int v_47, .int (mf 14), .int (mf 15), .int (mf 16), .ref (mm 6), .int (mf 18), .ref (mm 7), .ref (mm 8), .ref (mm 9), .int (mf 22), .ref (mm 10), .ref (mm 11), .int (mf 25), .int (mf 26), .ref (mm 12), .ref (mm 13), .int (mf 29), .ref (mm 14), .ref (mm 15), .ref (mm 16)])), ((mm 4), .inl (k 0, 900, .inl tf))] := hD
            replace hr_49 : r_49.toInt = 0 ∨ (r_49.toInt = 1 ∧ v_46.toInt = 0 ∧ v_35.toInt = 12 ∧ v_34.toInt ≤ v_51.toInt) := hr_49
            refine lv_if_ne (tgt := 154) hx hb dX8_readLine_146 (by decide) (fun c_61 => ?_) (fun c_61 => ?_)
            · have c_61 : r_49.toInt ≠ 0 := ti_ne c_61
              have qc_61 : r_49 = 1 := ti_of (show r_49.toInt = 1 from by omega)
              refine lv_aload_n hx hb dX8_readLine_154 rfl (lv_at hl 0 rfl) ?_
              refine va_get (D := D) (ci := 7) (v := .ref (mm 5)) (C := RX8) (T := TX8) (N := 33) hx hb hts inlX8 hown hK hP 1 rfl rfl 5 (by decide) (hts _ mwn_95) (fun _ h9 => h9) rfl dX8_readLine_155 ?_
              refine lv_bipush (v := 7) hx hb dX8_readLine_158 (by decide) ?_
              refine lv_dup2_11 hx hb dX8_readLine_160 rfl rfl ?_
              refine va_iald hx hb hK hP 0 0 rfl rfl (vp_in_c (by decide)) dX8_readLine_161 ?_
              refine lv_topi (fun z_62 ez_62 => ?_)
              refine lv_iconst (v := 1) hx hb dX8_readLine_162 (by decide) ?_
              refine lv_iadd hx hb dX8_readLine_163 ?_
              refine lv_topi (fun z_63 ez_63 => ?_)
              refine va_iast hx hb hK hP hD hS 0 0 rfl rfl (vp_in_c (by decide)) dX8_readLine_164 (fun H locs hP hD hS => ?_)
              replace hP : va_P D vwCl [((mm 5), .inl (k 0, 409, .inl (upd ef (7 : Int32).toNatClampNeg z_63))), ((mm 0), .inr (7, [.int (mf 0), .ref (mm 1), .ref (mm 2), .ref (mm 3), .ref (mm 4), .ref (mm 5), .int (mf 6), .int v_51, .int v_52, .int (mf 9), .int v_53, .int v_54, .int v_46, .int v_47, .int (mf 14), .int (mf 15), .int (mf 16), .ref (mm 6), .int (mf 18), .ref (mm 7), .ref (mm 8), .ref (mm 9), .int (mf 22), .ref (mm 10), .ref (mm 11), .int (mf 25), .int (mf 26), .ref (mm 12), .ref (mm 13), .int (mf 29), .ref (mm 14), .ref (mm 15), .ref (mm 16)])), ((mm 4), .inl (k 0, 900, .inl tf))] H := hP
              replace hD : va_D A [((mm 5), .inl (k 0, 409, .inl (upd ef (7 : Int32).toNatClampNeg z_63))), ((mm 0), .inr (7, [.int (mf 0), .ref (mm 1), .ref (mm 2), .ref (mm 3), .ref (mm 4), .ref (mm 5), .int (mf 6), .int v_51, .int v_52, .int (mf 9), .int v_53, .int v_54, .int v_46, .int v_47, .int (mf 14), .int (mf 15), .int (mf 16), .ref (mm 6), .int (mf 18), .ref (mm 7), .ref (mm 8), .ref (mm 9), .int (mf 22), .ref (mm 10), .ref (mm 11), .int (mf 25), .int (mf 26), .ref (mm 12), .ref (mm 13), .int (mf 29), .ref (mm 14), .ref (mm 15), .ref (mm 16)])), ((mm 4), .inl (k 0, 900, .inl tf))] := hD
              generalize ef_64 : (upd ef (7 : Int32).toNatClampNeg z_63) = f_64 at hP hD
              have hK_65 : FR v_46 f_64 := by rw [← ef_64]; exact FR_put (show FR v_46 ef from (by first | exact Or.inl (by omega) | exact FR_w w_fr (by omega) | (rcases (show v_46.toInt ≠ 0 ∨ (mf 12).toInt = 0 from by omega) with q | q <;> first | exact Or.inl q | exact FR_w w_fr q))) (by decide) (by decide) (by decide)
              exact W.vret hx hb hr (fun t ht hW => ⟨⟨(v_51, v_52, v_53, v_54, v_46, v_47, f_64), rfl, ⟨(show 0 ≤ v_51.toInt ∧ v_51.toInt ≤ 900 from ⟨by omega, by omega⟩), (show 0 ≤ v_52.toInt ∧ v_52.toInt ≤ 900 from ⟨by omega, by omega⟩), (show v_51.toInt ≤ v_52.toInt from by omega), (show v_52.toInt ≤ (mf 9).toInt from by omega), (show v_53.toInt = 13 ∨ v_51.toInt < v_52.toInt from by omega), (show v_46.toInt ≠ 0 ∨ (mf 7).toInt < v_51.toInt from by omega), (show FR v_46 f_64 from hK_65)⟩, by rw [ht]; exact hP.sub [1, 2, 0] rfl, hD.sub [1, 2, 0] (by decide) rfl⟩, hS.F ht⟩) hS.2.2 dX8_readLine_165
            · have c_61 : r_49.toInt = 0 := ti_eq c_61
              have qc_61 : r_49 = 0 := ti_of (show r_49.toInt = 0 from by omega)
              refine lv_aload_n hx hb dX8_readLine_149 rfl (lv_at hl 0 rfl) ?_
              refine lv_iconst (v := 2) hx hb dX8_readLine_150 (by decide) ?_
              refine kV_uv (q0 := 0) (As := [.int 2]) (rest := []) (wr := [((mm 5), .inl (k 0, 409, .inl ef)), ((mm 4), .inl (k 0, 900, .inl tf))]) ⟨hx, hb, hml, hown, hts⟩ (s_M_fails l D k _ (va_seli [(mf 0), 0, 0, 0, 0, 0, (mf 6), v_51, v_52, (mf 9), v_53, v_54, v_46, v_47, (mf 14), (mf 15), (mf 16), 0, (mf 18), 0, 0, 0, (mf 22), 0, 0, (mf 25), (mf 26), 0, 0, (mf 29)]) 2 _ (show 1 ≤ (2 : Int32).toInt ∧ (2 : Int32).toInt ≤ 4 from ⟨by decide, by decide⟩)) (gV mwn_331 mwn_332 mwn_333 mwn_5 mwn_334) hdn_yX8_fails rfl rfl ⟨Nat.le_of_ble_eq_true rfl, Nat.le_of_ble_eq_true rfl⟩ hK hN0 hP hD hS hA [1] [0, 2] rfl rfl (by decide) (by decide) (by decide) rfl rfl rfl rfl hl.1 rfl (Nat.le_of_ble_eq_true rfl) dX8_readLine_151 ⟨Nat.le_of_ble_eq_true rfl, Nat.le_of_ble_eq_true rfl⟩ (fun u_67 H locs hw hP hD hS => ?_)
              obtain ⟨v_68, v_69⟩ := u_67
              have h_70 := hw
              replace h_70 : v_68.toInt ≠ 0 := h_70
              replace hP : va_P D vwCl [((mm 5), .inl (k 0, 409, .inl ef)), ((mm 4), .inl (k 0, 900, .inl tf)), ((mm 0), .inr (7, [.int (mf 0), .ref (mm 1), .ref (mm 2), .ref (mm 3), .ref (mm 4), .ref (mm 5), .int (mf 6), .int v_51, .int v_52, .int (mf 9), .int v_53, .int v_54, .int v_68, .int v_69, .int (mf 14), .int (mf 15), .int (mf 16), .ref (mm 6), .int (mf 18), .ref (mm 7), .ref (mm 8), .ref (mm 9), .int (mf 22), .ref (mm 10), .ref (mm 11), .int (mf 25), .int (mf 26), .ref (mm 12), .ref (mm 13), .int (mf 29), .ref (mm 14), .ref (mm 15), .ref (mm 16)]))] H := hP
              replace hD : va_D A [((mm 5), .inl (k 0, 409, .inl ef)), ((mm 4), .inl (k 0, 900, .inl tf)), ((mm 0), .inr (7, [.int (mf 0), .ref (mm 1), .ref (mm 2), .ref (mm 3), .ref (mm 4), .ref (mm 5), .int (mf 6), .int v_51, .int v_52, .int (mf 9), .int v_53, .int v_54, .int v_68, .int v_69, .int (mf 14), .int (mf 15), .int (mf 16), .ref (mm 6), .int (mf 18), .ref (mm 7), .ref (mm 8), .ref (mm 9), .int (mf 22), .ref (mm 10), .ref (mm 11), .int (mf 25), .int (mf 26), .ref (mm 12), .ref (mm 13), .int (mf 29), .ref (mm 14), .ref (mm 15), .ref (mm 16)]))] := hD
              refine lv_aload_n hx hb dX8_readLine_154 rfl (lv_at hl 0 rfl) ?_
              refine va_get (D := D) (ci := 7) (v := .ref (mm 5)) (C := RX8) (T := TX8) (N := 33) hx hb hts inlX8 hown hK hP 2 rfl rfl 5 (by decide) (hts _ mwn_95) (fun _ h9 => h9) rfl dX8_readLine_155 ?_
              refine lv_bipush (v := 7) hx hb dX8_readLine_158 (by decide) ?_
              refine lv_dup2_11 hx hb dX8_readLine_160 rfl rfl ?_
              refine va_iald hx hb hK hP 0 0 rfl rfl (vp_in_c (by decide)) dX8_readLine_161 ?_
              refine lv_topi (fun z_71 ez_71 => ?_)
              refine lv_iconst (v := 1) hx hb dX8_readLine_162 (by decide) ?_
              refine lv_iadd hx hb dX8_readLine_163 ?_
              refine lv_topi (fun z_72 ez_72 => ?_)
              refine va_iast hx hb hK hP hD hS 0 0 rfl rfl (vp_in_c (by decide)) dX8_readLine_164 (fun H locs hP hD hS => ?_)
              replace hP : va_P D vwCl [((mm 5), .inl (k 0, 409, .inl (upd ef (7 : Int32).toNatClampNeg z_72))), ((mm 4), .inl (k 0, 900, .inl tf)), ((mm 0), .inr (7, [.int (mf 0), .ref (mm 1), .ref (mm 2), .ref (mm 3), .ref (mm 4), .ref (mm 5), .int (mf 6), .int v_51, .int v_52, .int (mf 9), .int v_53, .int v_54, .int v_68, .int v_69, .int (mf 14), .int (mf 15), .int (mf 16), .ref (mm 6), .int (mf 18), .ref (mm 7), .ref (mm 8), .ref (mm 9), .int (mf 22), .ref (mm 10), .ref (mm 11), .int (mf 25), .int (mf 26), .ref (mm 12), .ref (mm 13), .int (mf 29), .ref (mm 14), .ref (mm 15), .ref (mm 16)]))] H := hP
              replace hD : va_D A [((mm 5), .inl (k 0, 409, .inl (upd ef (7 : Int32).toNatClampNeg z_72))), ((mm 4), .inl (k 0, 900, .inl tf)), ((mm 0), .inr (7, [.int (mf 0), .ref (mm 1), .ref (mm 2), .ref (mm 3), .ref (mm 4), .ref (mm 5), .int (mf 6), .int v_51, .int v_52, .int (mf 9), .int v_53, .int v_54, .int v_68, .int v_69, .int (mf 14), .int (mf 15), .int (mf 16), .ref (mm 6), .int (mf 18), .ref (mm 7), .ref (mm 8), .ref (mm 9), .int (mf 22), .ref (mm 10), .ref (mm 11), .int (mf 25), .int (mf 26), .ref (mm 12), .ref (mm 13), .int (mf 29), .ref (mm 14), .ref (mm 15), .ref (mm 16)]))] := hD
              generalize ef_73 : (upd ef (7 : Int32).toNatClampNeg z_72) = f_73 at hP hD
              have hK_74 : FR v_68 f_73 := by rw [← ef_73]; exact FR_put (show FR v_68 ef from (by first | exact Or.inl (by omega) | exact FR_w w_fr (by omega) | (rcases (show v_68.toInt ≠ 0 ∨ (mf 12).toInt = 0 from by omega) with q | q <;> first | exact Or.inl q | exact FR_w w_fr q))) (by decide) (by decide) (by decide)
              exact W.vret hx hb hr (fun t ht hW => ⟨⟨(v_51, v_52, v_53, v_54, v_68, v_69, f_73), rfl, ⟨(show 0 ≤ v_51.toInt ∧ v_51.toInt ≤ 900 from ⟨by omega, by omega⟩), (show 0 ≤ v_52.toInt ∧ v_52.toInt ≤ 900 from ⟨by omega, by omega⟩), (show v_51.toInt ≤ v_52.toInt from by omega), (show v_52.toInt ≤ (mf 9).toInt from by omega), (show v_53.toInt = 13 ∨ v_51.toInt < v_52.toInt from by omega), (show v_68.toInt ≠ 0 ∨ (mf 7).toInt < v_51.toInt from by omega), (show FR v_68 f_73 from hK_74)⟩, by rw [ht]; exact hP.sub [2, 1, 0] rfl, hD.sub [2, 1, 0] (by decide) rfl⟩, hS.F ht⟩) hS.2.2 dX8_readLine_165
          · have c_43 : r_31.toInt ≠ 0 := ti_ne c_43
            have qc_43 : r_31 = 1 := ti_of (show r_31.toInt = 1 from by omega)
            refine lv_aload_n hx hb dX8_readLine_119 rfl (lv_at hl 0 rfl) ?_
            refine va_get (D := D) (ci := 7) (v := .ref (mm 5)) (C := RX8) (T := TX8) (N := 33) hx hb hts inlX8 hown hK hP 1 rfl rfl 5 (by decide) (hts _ mwn_95) (fun _ h9 => h9) rfl dX8_readLine_120 ?_
            refine lv_iconst (v := 5) hx hb dX8_readLine_123 (by decide) ?_
            refine lv_aload_n hx hb dX8_readLine_124 rfl (lv_at hl 0 rfl) ?_
            refine lv_iconst (v := 2) hx hb dX8_readLine_125 (by decide) ?_
            refine lv_bipush (v := 6) hx hb dX8_readLine_126 (by decide) ?_
            refine kV_uis (q0 := 0) (As := [.int 2, .int 6]) (rest := [.int 5, .ref (mm 5)]) (wr := [((mm 5), .inl (k 0, 409, .inl ef))]) ⟨hx, hb, hml, hown, hts⟩ (s_M_takes l D k ak av _ (va_seli [(mf 0), 0, 0, 0, 0, 0, (mf 6), v_33, v_34, (mf 9), v_35, v_36, (mf 12), (mf 13), (mf 14), (mf 15), (mf 16), 0, (mf 18), 0, 0, 0, (mf 22), 0, 0, (mf 25), (mf 26), 0, 0, (mf 29)]) tf 2 6 _ (show 0 ≤ v_33.toInt ∧ v_33.toInt ≤ 900 from ⟨by omega, by omega⟩) (show 0 ≤ v_34.toInt ∧ v_34.toInt ≤ 900 from ⟨by omega, by omega⟩) (show 0 ≤ (mf 9).toInt ∧ (mf 9).toInt ≤ 900 from ⟨by omega, by omega⟩) (show v_33.toInt ≤ v_34.toInt from by omega) (show v_34.toInt ≤ (mf 9).toInt from by omega) (show v_35.toInt = 13 ∨ v_33.toInt < v_34.toInt from by omega)) (gV mwn_339 mwn_340 mwn_341 mwn_5 mwn_342) hdn_yX8_takes rfl rfl ⟨Nat.le_of_ble_eq_true rfl, Nat.le_of_ble_eq_true rfl⟩ hK hN0 hW0 hS hP hD hS hA [1, 2] [0] rfl rfl (by decide) (by decide) (by decide) rfl rfl rfl rfl hl.1 rfl (Nat.le_of_ble_eq_true rfl) dX8_readLine_128 ⟨Nat.le_of_ble_eq_true rfl, Nat.le_of_ble_eq_true rfl⟩ (fun r_75 u_76 H locs hw hP hD hS => ?_)
            obtain ⟨v_77, v_78, v_79, v_80, v_81, v_82⟩ := u_76
            obtain ⟨hr_75, h_83, h_84, h_85, h_86, h_87, h_88, h_89⟩ := hw
            replace h_83 : 0 ≤ v_77.toInt ∧ v_77.toInt ≤ 900 := h_83
            replace h_84 : 0 ≤ v_78.toInt ∧ v_78.toInt ≤ 900 := h_84
            replace h_85 : v_77.toInt ≤ v_78.toInt := h_85
            replace h_86 : v_78.toInt ≤ (mf 9).toInt := h_86
            replace h_87 : v_79.toInt = 13 ∨ v_77.toInt < v_78.toInt := h_87
            replace h_88 : v_33.toInt ≤ v_77.toInt := h_88
            replace h_89 : v_81.toInt ≠ 0 ∨ (mf 12).toInt = 0 := h_89
            replace hP : va_P D vwCl [((mm 5), .inl (k 0, 409, .inl ef)), ((mm 0), .inr (7, [.int (mf 0), .ref (mm 1), .ref (mm 2), .ref (mm 3), .ref (mm 4), .ref (mm 5), .int (mf 6), .int v_77, .int v_78, .int (mf 9), .int v_79, .int v_80, .int v_81, .int v_82, .int (mf 14), .int (mf 15), .int (mf 16), .ref (mm 6), .int (mf 18), .ref (mm 7), .ref (mm 8), .ref (mm 9), .int (mf 22), .ref (mm 10), .ref (mm 11), .int (mf 25), .int (mf 26), .ref (mm 12), .ref (mm 13), .int (mf 29), .ref (mm 14), .ref (mm 15), .ref (mm 16)])), ((mm 4), .inl (k 0, 900, .inl tf))] H := hP
            replace hD : va_D A [((mm 5), .inl (k 0, 409, .inl ef)), ((mm 0), .inr (7, [.int (mf 0), .ref (mm 1), .ref (mm 2), .ref (mm 3), .ref (mm 4), .ref (mm 5), .int (mf 6), .int v_77, .int v_78, .int (mf 9), .int v_79, .int v_80, .int v_81, .int v_82, .int (mf 14), .int (mf 15), .int (mf 16), .ref (mm 6), .int (mf 18), .ref (mm 7), .ref (mm 8), .ref (mm 9), .int (mf 22), .ref (mm 10), .ref (mm 11), .int (mf 25), .int (mf 26), .ref (mm 12), .ref (mm 13), .int (mf 29), .ref (mm 14), .ref (mm 15), .ref (mm 16)])), ((mm 4), .inl (k 0, 900, .inl tf))] := hD
            replace hr_75 : v_81.toInt ≠ 0 ∨ (2 ≤ r_75.toInt ∧ r_75.toInt ≤ 6) := hr_75
            refine va_iast hx hb hK hP hD hS 0 0 rfl rfl (vp_in_c (by decide)) dX8_readLine_131 (fun H locs hP hD hS => ?_)
            replace hP : va_P D vwCl [((mm 5), .inl (k 0, 409, .inl (upd ef (5 : Int32).toNatClampNeg r_75))), ((mm 0), .inr (7, [.int (mf 0), .ref (mm 1), .ref (mm 2), .ref (mm 3), .ref (mm 4), .ref (mm 5), .int (mf 6), .int v_77, .int v_78, .int (mf 9), .int v_79, .int v_80, .int v_81, .int v_82, .int (mf 14), .int (mf 15), .int (mf 16), .ref (mm 6), .int (mf 18), .ref (mm 7), .ref (mm 8), .ref (mm 9), .int (mf 22), .ref (mm 10), .ref (mm 11), .int (mf 25), .int (mf 26), .ref (mm 12), .ref (mm 13), .int (mf 29), .ref (mm 14), .ref (mm 15), .ref (mm 16)])), ((mm 4), .inl (k 0, 900, .inl tf))] H := hP
            replace hD : va_D A [((mm 5), .inl (k 0, 409, .inl (upd ef (5 : Int32).toNatClampNeg r_75))), ((mm 0), .inr (7, [.int (mf 0), .ref (mm 1), .ref (mm 2), .ref (mm 3), .ref (mm 4), .ref (mm 5), .int (mf 6), .int v_77, .int v_78, .int (mf 9), .int v_79, .int v_80, .int v_81, .int v_82, .int (mf 14), .int (mf 15), .int (mf 16), .ref (mm 6), .int (mf 18), .ref (mm 7), .ref (mm 8), .ref (mm 9), .int (mf 22), .ref (mm 10), .ref (mm 11), .int (mf 25), .int (mf 26), .ref (mm 12), .ref (mm 13), .int (mf 29), .ref (mm 14), .ref (mm 15), .ref (mm 16)])), ((mm 4), .inl (k 0, 900, .inl tf))] := hD
            generalize ef_90 : (upd ef (5 : Int32).toNatClampNeg r_75) = f_90 at hP hD
            have hK_91 : FR v_81 f_90 := by rw [← ef_90]; exact FR_put (show FR v_81 ef from (by first | exact Or.inl (by omega) | exact FR_w w_fr (by omega) | (rcases (show v_81.toInt ≠ 0 ∨ (mf 12).toInt = 0 from by omega) with q | q <;> first | exact Or.inl q | exact FR_w w_fr q))) (by decide) (by decide) (by decide)
            refine lv_goto (tgt := 140) hx hb dX8_readLine_132 (by decide) ?_
            refine lv_aload_n hx hb dX8_readLine_140 rfl (lv_at hl 0 rfl) ?_
            refine lv_bipush (v := 12) hx hb dX8_readLine_141 (by decide) ?_
            refine kV_uis (q0 := 0) (As := [.int 12]) (rest := []) (wr := [((mm 5), .inl (k 0, 409, .inl f_90))]) ⟨hx, hb, hml, hown, hts⟩ (s_M_eats l D k ak av _ (va_seli [(mf 0), 0, 0, 0, 0, 0, (mf 6), v_77, v_78, (mf 9), v_79, v_80, v_81, v_82, (mf 14), (mf 15), (mf 16), 0, (mf 18), 0, 0, 0, (mf 22), 0, 0, (mf 25), (mf 26), 0, 0, (mf 29)]) tf 12 _ (show 0 ≤ v_77.toInt ∧ v_77.toInt ≤ 900 from ⟨by omega, by omega⟩) (show 0 ≤ v_78.toInt ∧ v_78.toInt ≤ 900 from ⟨by omega, by omega⟩) (show 0 ≤ (mf 9).toInt ∧ (mf 9).toInt ≤ 900 from ⟨by omega, by omega⟩) (show v_77.toInt ≤ v_78.toInt from by omega) (show v_78.toInt ≤ (mf 9).toInt from by omega) (show v_79.toInt = 13 ∨ v_77.toInt < v_78.toInt from by omega)) (gV mwn_343 mwn_344 mwn_345 mwn_5 mwn_346) hdn_yX8_eats rfl rfl ⟨Nat.le_of_ble_eq_true rfl, Nat.le_of_ble_eq_true rfl⟩ hK hN0 hW0 hS hP hD hS hA [1, 2] [0] rfl rfl (by decide) (by decide) (by decide) rfl rfl rfl rfl hl.1 rfl (Nat.le_of_ble_eq_true rfl) dX8_readLine_143 ⟨Nat.le_of_ble_eq_true rfl, Nat.le_of_ble_eq_true rfl⟩ (fun r_92 u_93 H locs hw hP hD hS => ?_)
            obtain ⟨v_94, v_95, v_96, v_97⟩ := u_93
            obtain ⟨hr_92, h_98, h_99, h_100, h_101, h_102, h_103⟩ := hw
            replace h_98 : 0 ≤ v_94.toInt ∧ v_94.toInt ≤ 900 := h_98
            replace h_99 : 0 ≤ v_95.toInt ∧ v_95.toInt ≤ 900 := h_99
            replace h_100 : v_94.toInt ≤ v_95.toInt := h_100
            replace h_101 : v_95.toInt ≤ (mf 9).toInt := h_101
            replace h_102 : v_96.toInt = 13 ∨ v_94.toInt < v_95.toInt := h_102
            replace h_103 : v_77.toInt ≤ v_94.toInt := h_103
            replace hP : va_P D vwCl [((mm 5), .inl (k 0, 409, .inl f_90)), ((mm 0), .inr (7, [.int (mf 0), .ref (mm 1), .ref (mm 2), .ref (mm 3), .ref (mm 4), .ref (mm 5), .int (mf 6), .int v_94, .int v_95, .int (mf 9), .int v_96, .int v_97, .int v_81, .int v_82, .int (mf 14), .int (mf 15), .int (mf 16), .ref (mm 6), .int (mf 18), .ref (mm 7), .ref (mm 8), .ref (mm 9), .int (mf 22), .ref (mm 10), .ref (mm 11), .int (mf 25), .int (mf 26), .ref (mm 12), .ref (mm 13), .int (mf 29), .ref (mm 14), .ref (mm 15), .ref (mm 16)])), ((mm 4), .inl (k 0, 900, .inl tf))] H := hP
            replace hD : va_D A [((mm 5), .inl (k 0, 409, .inl f_90)), ((mm 0), .inr (7, [.int (mf 0), .ref (mm 1), .ref (mm 2), .ref (mm 3), .ref (mm 4), .ref (mm 5), .int (mf 6), .int v_94, .int v_95, .int (mf 9), .int v_96, .int v_97, .int v_81, .int v_82, .int (mf 14), .int (mf 15), .int (mf 16), .ref (mm 6), .int (mf 18), .ref (mm 7), .ref (mm 8), .ref (mm 9), .int (mf 22), .ref (mm 10), .ref (mm 11), .int (mf 25), .int (mf 26), .ref (mm 12), .ref (mm 13), .int (mf 29), .ref (mm 14), .ref (mm 15), .ref (mm 16)])), ((mm 4), .inl (k 0, 900, .inl tf))] := hD
            replace hr_92 : r_92.toInt = 0 ∨ (r_92.toInt = 1 ∧ v_81.toInt = 0 ∧ v_79.toInt = 12 ∧ v_78.toInt ≤ v_94.toInt) := hr_92
            refine lv_if_ne (tgt := 154) hx hb dX8_readLine_146 (by decide) (fun c_104 => ?_) (fun c_104 => ?_)
            · have c_104 : r_92.toInt ≠ 0 := ti_ne c_104
              have qc_104 : r_92 = 1 := ti_of (show r_92.toInt = 1 from by omega)
              refine lv_aload_n hx hb dX8_readLine_154 rfl (lv_at hl 0 rfl) ?_
              refine va_get (D := D) (ci := 7) (v := .ref (mm 5)) (C := RX8) (T := TX8) (N := 33) hx hb hts inlX8 hown hK hP 1 rfl rfl 5 (by decide) (hts _ mwn_95) (fun _ h9 => h9) rfl dX8_readLine_155 ?_
              refine lv_bipush (v := 7) hx hb dX8_readLine_158 (by decide) ?_
              refine lv_dup2_11 hx hb dX8_readLine_160 rfl rfl ?_
              refine va_iald hx hb hK hP 0 0 rfl rfl (vp_in_c (by decide)) dX8_readLine_161 ?_
              refine lv_topi (fun z_105 ez_105 => ?_)
              refine lv_iconst (v := 1) hx hb dX8_readLine_162 (by decide) ?_
              refine lv_iadd hx hb dX8_readLine_163 ?_
              refine lv_topi (fun z_106 ez_106 => ?_)
              refine va_iast hx hb hK hP hD hS 0 0 rfl rfl (vp_in_c (by decide)) dX8_readLine_164 (fun H locs hP hD hS => ?_)
              replace hP : va_P D vwCl [((mm 5), .inl (k 0, 409, .inl (upd f_90 (7 : Int32).toNatClampNeg z_106))), ((mm 0), .inr (7, [.int (mf 0), .ref (mm 1), .ref (mm 2), .ref (mm 3), .ref (mm 4), .ref (mm 5), .int (mf 6), .int v_94, .int v_95, .int (mf 9), .int v_96, .int v_97, .int v_81, .int v_82, .int (mf 14), .int (mf 15), .int (mf 16), .ref (mm 6), .int (mf 18), .ref (mm 7), .ref (mm 8), .ref (mm 9), .int (mf 22), .ref (mm 10), .ref (mm 11), .int (mf 25), .int (mf 26), .ref (mm 12), .ref (mm 13), .int (mf 29), .ref (mm 14), .ref (mm 15), .ref (mm 16)])), ((mm 4), .inl (k 0, 900, .inl tf))] H := hP
              replace hD : va_D A [((mm 5), .inl (k 0, 409, .inl (upd f_90 (7 : Int32).toNatClampNeg z_106))), ((mm 0), .inr (7, [.int (mf 0), .ref (mm 1), .ref (mm 2), .ref (mm 3), .ref (mm 4), .ref (mm 5), .int (mf 6), .int v_94, .int v_95, .int (mf 9), .int v_96, .int v_97, .int v_81, .int v_82, .int (mf 14), .int (mf 15), .int (mf 16), .ref (mm 6), .int (mf 18), .ref (mm 7), .ref (mm 8), .ref (mm 9), .int (mf 22), .ref (mm 10), .ref (mm 11), .int (mf 25), .int (mf 26), .ref (mm 12), .ref (mm 13), .int (mf 29), .ref (mm 14), .ref (mm 15), .ref (mm 16)])), ((mm 4), .inl (k 0, 900, .inl tf))] := hD
              generalize ef_107 : (upd f_90 (7 : Int32).toNatClampNeg z_106) = f_107 at hP hD
              have hK_108 : FR v_81 f_107 := by rw [← ef_107]; exact FR_put (show FR v_81 f_90 from hK_91) (by decide) (by decide) (by decide)
              exact W.vret hx hb hr (fun t ht hW => ⟨⟨(v_94, v_95, v_96, v_97, v_81, v_82, f_107), rfl, ⟨(show 0 ≤ v_94.toInt ∧ v_94.toInt ≤ 900 from ⟨by omega, by omega⟩), (show 0 ≤ v_95.toInt ∧ v_95.toInt ≤ 900 from ⟨by omega, by omega⟩), (show v_94.toInt ≤ v_95.toInt from by omega), (show v_95.toInt ≤ (mf 9).toInt from by omega), (show v_96.toInt = 13 ∨ v_94.toInt < v_95.toInt from by omega), (show v_81.toInt ≠ 0 ∨ (mf 7).toInt < v_94.toInt from by omega), (show FR v_81 f_107 from hK_108)⟩, by rw [ht]; exact hP.sub [1, 2, 0] rfl, hD.sub [1, 2, 0] (by decide) rfl⟩, hS.F ht⟩) hS.2.2 dX8_readLine_165
            · have c_104 : r_92.toInt = 0 := ti_eq c_104
              have qc_104 : r_92 = 0 := ti_of (show r_92.toInt = 0 from by omega)
              refine lv_aload_n hx hb dX8_readLine_149 rfl (lv_at hl 0 rfl) ?_
              refine lv_iconst (v := 2) hx hb dX8_readLine_150 (by decide) ?_
              refine kV_uv (q0 := 0) (As := [.int 2]) (rest := []) (wr := [((mm 5), .inl (k 0, 409, .inl f_90)), ((mm 4), .inl (k 0, 900, .inl tf))]) ⟨hx, hb, hml, hown, hts⟩ (s_M_fails l D k _ (va_seli [(mf 0), 0, 0, 0, 0, 0, (mf 6), v_94, v_95, (mf 9), v_96, v_97, v_81, v_82, (mf 14), (mf 15), (mf 16), 0, (mf 18), 0, 0, 0, (mf 22), 0, 0, (mf 25), (mf 26), 0, 0, (mf 29)]) 2 _ (show 1 ≤ (2 : Int32).toInt ∧ (2 : Int32).toInt ≤ 4 from ⟨by decide, by decide⟩)) (gV mwn_331 mwn_332 mwn_333 mwn_5 mwn_334) hdn_yX8_fails rfl rfl ⟨Nat.le_of_ble_eq_true rfl, Nat.le_of_ble_eq_true rfl⟩ hK hN0 hP hD hS hA [1] [0, 2] rfl rfl (by decide) (by decide) (by decide) rfl rfl rfl rfl hl.1 rfl (Nat.le_of_ble_eq_true rfl) dX8_readLine_151 ⟨Nat.le_of_ble_eq_true rfl, Nat.le_of_ble_eq_true rfl⟩ (fun u_110 H locs hw hP hD hS => ?_)
              obtain ⟨v_111, v_112⟩ := u_110
              have h_113 := hw
              replace h_113 : v_111.toInt ≠ 0 := h_113
              replace hP : va_P D vwCl [((mm 5), .inl (k 0, 409, .inl f_90)), ((mm 4), .inl (k 0, 900, .inl tf)), ((mm 0), .inr (7, [.int (mf 0), .ref (mm 1), .ref (mm 2), .ref (mm 3), .ref (mm 4), .ref (mm 5), .int (mf 6), .int v_94, .int v_95, .int (mf 9), .int v_96, .int v_97, .int v_111, .int v_112, .int (mf 14), .int (mf 15), .int (mf 16), .ref (mm 6), .int (mf 18), .ref (mm 7), .ref (mm 8), .ref (mm 9), .int (mf 22), .ref (mm 10), .ref (mm 11), .int (mf 25), .int (mf 26), .ref (mm 12), .ref (mm 13), .int (mf 29), .ref (mm 14), .ref (mm 15), .ref (mm 16)]))] H := hP
              replace hD : va_D A [((mm 5), .inl (k 0, 409, .inl f_90)), ((mm 4), .inl (k 0, 900, .inl tf)), ((mm 0), .inr (7, [.int (mf 0), .ref (mm 1), .ref (mm 2), .ref (mm 3), .ref (mm 4), .ref (mm 5), .int (mf 6), .int v_94, .int v_95, .int (mf 9), .int v_96, .int v_97, .int v_111, .int v_112, .int (mf 14), .int (mf 15), .int (mf 16), .ref (mm 6), .int (mf 18), .ref (mm 7), .ref (mm 8), .ref (mm 9), .int (mf 22), .ref (mm 10), .ref (mm 11), .int (mf 25), .int (mf 26), .ref (mm 12), .ref (mm 13), .int (mf 29), .ref (mm 14), .ref (mm 15), .ref (mm 16)]))] := hD
              refine lv_aload_n hx hb dX8_readLine_154 rfl (lv_at hl 0 rfl) ?_
              refine va_get (D := D) (ci := 7) (v := .ref (mm 5)) (C := RX8) (T := TX8) (N := 33) hx hb hts inlX8 hown hK hP 2 rfl rfl 5 (by decide) (hts _ mwn_95) (fun _ h9 => h9) rfl dX8_readLine_155 ?_
              refine lv_bipush (v := 7) hx hb dX8_readLine_158 (by decide) ?_
              refine lv_dup2_11 hx hb dX8_readLine_160 rfl rfl ?_
              refine va_iald hx hb hK hP 0 0 rfl rfl (vp_in_c (by decide)) dX8_readLine_161 ?_
              refine lv_topi (fun z_114 ez_114 => ?_)
              refine lv_iconst (v := 1) hx hb dX8_readLine_162 (by decide) ?_
              refine lv_iadd hx hb dX8_readLine_163 ?_
              refine lv_topi (fun z_115 ez_115 => ?_)
              refine va_iast hx hb hK hP hD hS 0 0 rfl rfl (vp_in_c (by decide)) dX8_readLine_164 (fun H locs hP hD hS => ?_)
              replace hP : va_P D vwCl [((mm 5), .inl (k 0, 409, .inl (upd f_90 (7 : Int32).toNatClampNeg z_115))), ((mm 4), .inl (k 0, 900, .inl tf)), ((mm 0), .inr (7, [.int (mf 0), .ref (mm 1), .ref (mm 2), .ref (mm 3), .ref (mm 4), .ref (mm 5), .int (mf 6), .int v_94, .int v_95, .int (mf 9), .int v_96, .int v_97, .int v_111, .int v_112, .int (mf 14), .int (mf 15), .int (mf 16), .ref (mm 6), .int (mf 18), .ref (mm 7), .ref (mm 8), .ref (mm 9), .int (mf 22), .ref (mm 10), .ref (mm 11), .int (mf 25), .int (mf 26), .ref (mm 12), .ref (mm 13), .int (mf 29), .ref (mm 14), .ref (mm 15), .ref (mm 16)]))] H := hP
              replace hD : va_D A [((mm 5), .inl (k 0, 409, .inl (upd f_90 (7 : Int32).toNatClampNeg z_115))), ((mm 4), .inl (k 0, 900, .inl tf)), ((mm 0), .inr (7, [.int (mf 0), .ref (mm 1), .ref (mm 2), .ref (mm 3), .ref (mm 4), .ref (mm 5), .int (mf 6), .int v_94, .int v_95, .int (mf 9), .int v_96, .int v_97, .int v_111, .int v_112, .int (mf 14), .int (mf 15), .int (mf 16), .ref (mm 6), .int (mf 18), .ref (mm 7), .ref (mm 8), .ref (mm 9), .int (mf 22), .ref (mm 10), .ref (mm 11), .int (mf 25), .int (mf 26), .ref (mm 12), .ref (mm 13), .int (mf 29), .ref (mm 14), .ref (mm 15), .ref (mm 16)]))] := hD
              generalize ef_116 : (upd f_90 (7 : Int32).toNatClampNeg z_115) = f_116 at hP hD
              have hK_117 : FR v_111 f_116 := by rw [← ef_116]; exact FR_put (show FR v_111 f_90 from (by first | exact Or.inl (by omega) | exact FR_w hK_91 (by omega) | (rcases (show v_111.toInt ≠ 0 ∨ v_81.toInt = 0 from by omega) with q | q <;> first | exact Or.inl q | exact FR_w hK_91 q))) (by decide) (by decide) (by decide)
              exact W.vret hx hb hr (fun t ht hW => ⟨⟨(v_94, v_95, v_96, v_97, v_111, v_112, f_116), rfl, ⟨(show 0 ≤ v_94.toInt ∧ v_94.toInt ≤ 900 from ⟨by omega, by omega⟩), (show 0 ≤ v_95.toInt ∧ v_95.toInt ≤ 900 from ⟨by omega, by omega⟩), (show v_94.toInt ≤ v_95.toInt from by omega), (show v_95.toInt ≤ (mf 9).toInt from by omega), (show v_96.toInt = 13 ∨ v_94.toInt < v_95.toInt from by omega), (show v_111.toInt ≠ 0 ∨ (mf 7).toInt < v_94.toInt from by omega), (show FR v_111 f_116 from hK_117)⟩, by rw [ht]; exact hP.sub [2, 1, 0] rfl, hD.sub [2, 1, 0] (by decide) rfl⟩, hS.F ht⟩) hS.2.2 dX8_readLine_165
        · have c_30 : r_18.toInt ≠ 0 := ti_ne c_30
          have qc_30 : r_18 = 1 := ti_of (show r_18.toInt = 1 from by omega)
          refine lv_aload_n hx hb dX8_readLine_81 rfl (lv_at hl 0 rfl) ?_
          refine va_get (D := D) (ci := 7) (v := .ref (mm 5)) (C := RX8) (T := TX8) (N := 33) hx hb hts inlX8 hown hK hP 1 rfl rfl 5 (by decide) (hts _ mwn_95) (fun _ h9 => h9) rfl dX8_readLine_82 ?_
          refine lv_iconst (v := 3) hx hb dX8_readLine_85 (by decide) ?_
          refine lv_aload_n hx hb dX8_readLine_86 rfl (lv_at hl 0 rfl) ?_
          refine lv_iconst (v := 1) hx hb dX8_readLine_87 (by decide) ?_
          refine lv_bipush (v := 30) hx hb dX8_readLine_88 (by decide) ?_
          refine kV_uis (q0 := 0) (As := [.int 1, .int 30]) (rest := [.int 3, .ref (mm 5)]) (wr := [((mm 5), .inl (k 0, 409, .inl ef))]) ⟨hx, hb, hml, hown, hts⟩ (s_M_takes l D k ak av _ (va_seli [(mf 0), 0, 0, 0, 0, 0, (mf 6), v_20, v_21, (mf 9), v_22, v_23, (mf 12), (mf 13), (mf 14), (mf 15), (mf 16), 0, (mf 18), 0, 0, 0, (mf 22), 0, 0, (mf 25), (mf 26), 0, 0, (mf 29)]) tf 1 30 _ (show 0 ≤ v_20.toInt ∧ v_20.toInt ≤ 900 from ⟨by omega, by omega⟩) (show 0 ≤ v_21.toInt ∧ v_21.toInt ≤ 900 from ⟨by omega, by omega⟩) (show 0 ≤ (mf 9).toInt ∧ (mf 9).toInt ≤ 900 from ⟨by omega, by omega⟩) (show v_20.toInt ≤ v_21.toInt from by omega) (show v_21.toInt ≤ (mf 9).toInt from by omega) (show v_22.toInt = 13 ∨ v_20.toInt < v_21.toInt from by omega)) (gV mwn_339 mwn_340 mwn_341 mwn_5 mwn_342) hdn_yX8_takes rfl rfl ⟨Nat.le_of_ble_eq_true rfl, Nat.le_of_ble_eq_true rfl⟩ hK hN0 hW0 hS hP hD hS hA [1, 2] [0] rfl rfl (by decide) (by decide) (by decide) rfl rfl rfl rfl hl.1 rfl (Nat.le_of_ble_eq_true rfl) dX8_readLine_90 ⟨Nat.le_of_ble_eq_true rfl, Nat.le_of_ble_eq_true rfl⟩ (fun r_118 u_119 H locs hw hP hD hS => ?_)
          obtain ⟨v_120, v_121, v_122, v_123, v_124, v_125⟩ := u_119
          obtain ⟨hr_118, h_126, h_127, h_128, h_129, h_130, h_131, h_132⟩ := hw
          replace h_126 : 0 ≤ v_120.toInt ∧ v_120.toInt ≤ 900 := h_126
          replace h_127 : 0 ≤ v_121.toInt ∧ v_121.toInt ≤ 900 := h_127
          replace h_128 : v_120.toInt ≤ v_121.toInt := h_128
          replace h_129 : v_121.toInt ≤ (mf 9).toInt := h_129
          replace h_130 : v_122.toInt = 13 ∨ v_120.toInt < v_121.toInt := h_130
          replace h_131 : v_20.toInt ≤ v_120.toInt := h_131
          replace h_132 : v_124.toInt ≠ 0 ∨ (mf 12).toInt = 0 := h_132
          replace hP : va_P D vwCl [((mm 5), .inl (k 0, 409, .inl ef)), ((mm 0), .inr (7, [.int (mf 0), .ref (mm 1), .ref (mm 2), .ref (mm 3), .ref (mm 4), .ref (mm 5), .int (mf 6), .int v_120, .int v_121, .int (mf 9), .int v_122, .int v_123, .int v_124, .int v_125, .int (mf 14), .int (mf 15), .int (mf 16), .ref (mm 6), .int (mf 18), .ref (mm 7), .ref (mm 8), .ref (mm 9), .int (mf 22), .ref (mm 10), .ref (mm 11), .int (mf 25), .int (mf 26), .ref (mm 12), .ref (mm 13), .int (mf 29), .ref (mm 14), .ref (mm 15), .ref (mm 16)])), ((mm 4), .inl (k 0, 900, .inl tf))] H := hP
          replace hD : va_D A [((mm 5), .inl (k 0, 409, .inl ef)), ((mm 0), .inr (7, [.int (mf 0), .ref (mm 1), .ref (mm 2), .ref (mm 3), .ref (mm 4), .ref (mm 5), .int (mf 6), .int v_120, .int v_121, .int (mf 9), .int v_122, .int v_123, .int v_124, .int v_125, .int (mf 14), .int (mf 15), .int (mf 16), .ref (mm 6), .int (mf 18), .ref (mm 7), .ref (mm 8), .ref (mm 9), .int (mf 22), .ref (mm 10), .ref (mm 11), .int (mf 25), .int (mf 26), .ref (mm 12), .ref (mm 13), .int (mf 29), .ref (mm 14), .ref (mm 15), .ref (mm 16)])), ((mm 4), .inl (k 0, 900, .inl tf))] := hD
          replace hr_118 : v_124.toInt ≠ 0 ∨ (1 ≤ r_118.toInt ∧ r_118.toInt ≤ 30) := hr_118
          refine va_iast hx hb hK hP hD hS 0 0 rfl rfl (vp_in_c (by decide)) dX8_readLine_93 (fun H locs hP hD hS => ?_)
          replace hP : va_P D vwCl [((mm 5), .inl (k 0, 409, .inl (upd ef (3 : Int32).toNatClampNeg r_118))), ((mm 0), .inr (7, [.int (mf 0), .ref (mm 1), .ref (mm 2), .ref (mm 3), .ref (mm 4), .ref (mm 5), .int (mf 6), .int v_120, .int v_121, .int (mf 9), .int v_122, .int v_123, .int v_124, .int v_125, .int (mf 14), .int (mf 15), .int (mf 16), .ref (mm 6), .int (mf 18), .ref (mm 7), .ref (mm 8), .ref (mm 9), .int (mf 22), .ref (mm 10), .ref (mm 11), .int (mf 25), .int (mf 26), .ref (mm 12), .ref (mm 13), .int (mf 29), .ref (mm 14), .ref (mm 15), .ref (mm 16)])), ((mm 4), .inl (k 0, 900, .inl tf))] H := hP
          replace hD : va_D A [((mm 5), .inl (k 0, 409, .inl (upd ef (3 : Int32).toNatClampNeg r_118))), ((mm 0), .inr (7, [.int (mf 0), .ref (mm 1), .ref (mm 2), .ref (mm 3), .ref (mm 4), .ref (mm 5), .int (mf 6), .int v_120, .int v_121, .int (mf 9), .int v_122, .int v_123, .int v_124, .int v_125, .int (mf 14), .int (mf 15), .int (mf 16), .ref (mm 6), .int (mf 18), .ref (mm 7), .ref (mm 8), .ref (mm 9), .int (mf 22), .ref (mm 10), .ref (mm 11), .int (mf 25), .int (mf 26), .ref (mm 12), .ref (mm 13), .int (mf 29), .ref (mm 14), .ref (mm 15), .ref (mm 16)])), ((mm 4), .inl (k 0, 900, .inl tf))] := hD
          generalize ef_133 : (upd ef (3 : Int32).toNatClampNeg r_118) = f_133 at hP hD
          have hK_134 : FR v_124 f_133 := by rw [← ef_133]; exact FR_put (show FR v_124 ef from (by first | exact Or.inl (by omega) | exact FR_w w_fr (by omega) | (rcases (show v_124.toInt ≠ 0 ∨ (mf 12).toInt = 0 from by omega) with q | q <;> first | exact Or.inl q | exact FR_w w_fr q))) (by decide) (by decide) (by decide)
          refine lv_aload_n hx hb dX8_readLine_94 rfl (lv_at hl 0 rfl) ?_
          refine va_get (D := D) (ci := 7) (v := .ref (mm 5)) (C := RX8) (T := TX8) (N := 33) hx hb hts inlX8 hown hK hP 1 rfl rfl 5 (by decide) (hts _ mwn_95) (fun _ h9 => h9) rfl dX8_readLine_95 ?_
          refine lv_iconst (v := 4) hx hb dX8_readLine_98 (by decide) ?_
          refine lv_aload_n hx hb dX8_readLine_99 rfl (lv_at hl 0 rfl) ?_
          refine lv_iconst (v := 1) hx hb dX8_readLine_100 (by decide) ?_
          refine lv_bipush (v := 30) hx hb dX8_readLine_101 (by decide) ?_
          refine kV_uis (q0 := 0) (As := [.int 1, .int 30]) (rest := [.int 4, .ref (mm 5)]) (wr := [((mm 5), .inl (k 0, 409, .inl f_133))]) ⟨hx, hb, hml, hown, hts⟩ (s_M_takes l D k ak av _ (va_seli [(mf 0), 0, 0, 0, 0, 0, (mf 6), v_120, v_121, (mf 9), v_122, v_123, v_124, v_125, (mf 14), (mf 15), (mf 16), 0, (mf 18), 0, 0, 0, (mf 22), 0, 0, (mf 25), (mf 26), 0, 0, (mf 29)]) tf 1 30 _ (show 0 ≤ v_120.toInt ∧ v_120.toInt ≤ 900 from ⟨by omega, by omega⟩) (show 0 ≤ v_121.toInt ∧ v_121.toInt ≤ 900 from ⟨by omega, by omega⟩) (show 0 ≤ (mf 9).toInt ∧ (mf 9).toInt ≤ 900 from ⟨by omega, by omega⟩) (show v_120.toInt ≤ v_121.toInt from by omega) (show v_121.toInt ≤ (mf 9).toInt from by omega) (show v_122.toInt = 13 ∨ v_120.toInt < v_121.toInt from by omega)) (gV mwn_339 mwn_340 mwn_341 mwn_5 mwn_342) hdn_yX8_takes rfl rfl ⟨Nat.le_of_ble_eq_true rfl, Nat.le_of_ble_eq_true rfl⟩ hK hN0 hW0 hS hP hD hS hA [1, 2] [0] rfl rfl (by decide) (by decide) (by decide) rfl rfl rfl rfl hl.1 rfl (Nat.le_of_ble_eq_true rfl) dX8_readLine_103 ⟨Nat.le_of_ble_eq_true rfl, Nat.le_of_ble_eq_true rfl⟩ (fun r_135 u_136 H locs hw hP hD hS => ?_)
          obtain ⟨v_137, v_138, v_139, v_140, v_141, v_142⟩ := u_136
          obtain ⟨hr_135, h_143, h_144, h_145, h_146, h_147, h_148, h_149⟩ := hw
          replace h_143 : 0 ≤ v_137.toInt ∧ v_137.toInt ≤ 900 := h_143
          replace h_144 : 0 ≤ v_138.toInt ∧ v_138.toInt ≤ 900 := h_144
          replace h_145 : v_137.toInt ≤ v_138.toInt := h_145
          replace h_146 : v_138.toInt ≤ (mf 9).toInt := h_146
          replace h_147 : v_139.toInt = 13 ∨ v_137.toInt < v_138.toInt := h_147
          replace h_148 : v_120.toInt ≤ v_137.toInt := h_148
          replace h_149 : v_141.toInt ≠ 0 ∨ v_124.toInt = 0 := h_149
          replace hP : va_P D vwCl [((mm 5), .inl (k 0, 409, .inl f_133)), ((mm 0), .inr (7, [.int (mf 0), .ref (mm 1), .ref (mm 2), .ref (mm 3), .ref (mm 4), .ref (mm 5), .int (mf 6), .int v_137, .int v_138, .int (mf 9), .int v_139, .int v_140, .int v_141, .int v_142, .int (mf 14), .int (mf 15), .int (mf 16), .ref (mm 6), .int (mf 18), .ref (mm 7), .ref (mm 8), .ref (mm 9), .int (mf 22), .ref (mm 10), .ref (mm 11), .int (mf 25), .int (mf 26), .ref (mm 12), .ref (mm 13), .int (mf 29), .ref (mm 14), .ref (mm 15), .ref (mm 16)])), ((mm 4), .inl (k 0, 900, .inl tf))] H := hP
          replace hD : va_D A [((mm 5), .inl (k 0, 409, .inl f_133)), ((mm 0), .inr (7, [.int (mf 0), .ref (mm 1), .ref (mm 2), .ref (mm 3), .ref (mm 4), .ref (mm 5), .int (mf 6), .int v_137, .int v_138, .int (mf 9), .int v_139, .int v_140, .int v_141, .int v_142, .int (mf 14), .int (mf 15), .int (mf 16), .ref (mm 6), .int (mf 18), .ref (mm 7), .ref (mm 8), .ref (mm 9), .int (mf 22), .ref (mm 10), .ref (mm 11), .int (mf 25), .int (mf 26), .ref (mm 12), .ref (mm 13), .int (mf 29), .ref (mm 14), .ref (mm 15), .ref (mm 16)])), ((mm 4), .inl (k 0, 900, .inl tf))] := hD
          replace hr_135 : v_141.toInt ≠ 0 ∨ (1 ≤ r_135.toInt ∧ r_135.toInt ≤ 30) := hr_135
          refine va_iast hx hb hK hP hD hS 0 0 rfl rfl (vp_in_c (by decide)) dX8_readLine_106 (fun H locs hP hD hS => ?_)
          replace hP : va_P D vwCl [((mm 5), .inl (k 0, 409, .inl (upd f_133 (4 : Int32).toNatClampNeg r_135))), ((mm 0), .inr (7, [.int (mf 0), .ref (mm 1), .ref (mm 2), .ref (mm 3), .ref (mm 4), .ref (mm 5), .int (mf 6), .int v_137, .int v_138, .int (mf 9), .int v_139, .int v_140, .int v_141, .int v_142, .int (mf 14), .int (mf 15), .int (mf 16), .ref (mm 6), .int (mf 18), .ref (mm 7), .ref (mm 8), .ref (mm 9), .int (mf 22), .ref (mm 10), .ref (mm 11), .int (mf 25), .int (mf 26), .ref (mm 12), .ref (mm 13), .int (mf 29), .ref (mm 14), .ref (mm 15), .ref (mm 16)])), ((mm 4), .inl (k 0, 900, .inl tf))] H := hP
          replace hD : va_D A [((mm 5), .inl (k 0, 409, .inl (upd f_133 (4 : Int32).toNatClampNeg r_135))), ((mm 0), .inr (7, [.int (mf 0), .ref (mm 1), .ref (mm 2), .ref (mm 3), .ref (mm 4), .ref (mm 5), .int (mf 6), .int v_137, .int v_138, .int (mf 9), .int v_139, .int v_140, .int v_141, .int v_142, .int (mf 14), .int (mf 15), .int (mf 16), .ref (mm 6), .int (mf 18), .ref (mm 7), .ref (mm 8), .ref (mm 9), .int (mf 22), .ref (mm 10), .ref (mm 11), .int (mf 25), .int (mf 26), .ref (mm 12), .ref (mm 13), .int (mf 29), .ref (mm 14), .ref (mm 15), .ref (mm 16)])), ((mm 4), .inl (k 0, 900, .inl tf))] := hD
          generalize ef_150 : (upd f_133 (4 : Int32).toNatClampNeg r_135) = f_150 at hP hD
          have hK_151 : FR v_141 f_150 := by rw [← ef_150]; exact FR_put (show FR v_141 f_133 from (by first | exact Or.inl (by omega) | exact FR_w hK_134 (by omega) | (rcases (show v_141.toInt ≠ 0 ∨ v_124.toInt = 0 from by omega) with q | q <;> first | exact Or.inl q | exact FR_w hK_134 q))) (by decide) (by decide) (by decide)
          refine lv_goto (tgt := 140) hx hb dX8_readLine_107 (by decide) ?_
          refine lv_aload_n hx hb dX8_readLine_140 rfl (lv_at hl 0 rfl) ?_
          refine lv_bipush (v := 12) hx hb dX8_readLine_141 (by decide) ?_
          refine kV_uis (q0 := 0) (As := [.int 12]) (rest := []) (wr := [((mm 5), .inl (k 0, 409, .inl f_150))]) ⟨hx, hb, hml, hown, hts⟩ (s_M_eats l D k ak av _ (va_seli [(mf 0), 0, 0, 0, 0, 0, (mf 6), v_137, v_138, (mf 9), v_139, v_140, v_141, v_142, (mf 14), (mf 15), (mf 16), 0, (mf 18), 0, 0, 0, (mf 22), 0, 0, (mf 25), (mf 26), 0, 0, (mf 29)]) tf 12 _ (show 0 ≤ v_137.toInt ∧ v_137.toInt ≤ 900 from ⟨by omega, by omega⟩) (show 0 ≤ v_138.toInt ∧ v_138.toInt ≤ 900 from ⟨by omega, by omega⟩) (show 0 ≤ (mf 9).toInt ∧ (mf 9).toInt ≤ 900 from ⟨by omega, by omega⟩) (show v_137.toInt ≤ v_138.toInt from by omega) (show v_138.toInt ≤ (mf 9).toInt from by omega) (show v_139.toInt = 13 ∨ v_137.toInt < v_138.toInt from by omega)) (gV mwn_343 mwn_344 mwn_345 mwn_5 mwn_346) hdn_yX8_eats rfl rfl ⟨Nat.le_of_ble_eq_true rfl, Nat.le_of_ble_eq_true rfl⟩ hK hN0 hW0 hS hP hD hS hA [1, 2] [0] rfl rfl (by decide) (by decide) (by decide) rfl rfl rfl rfl hl.1 rfl (Nat.le_of_ble_eq_true rfl) dX8_readLine_143 ⟨Nat.le_of_ble_eq_true rfl, Nat.le_of_ble_eq_true rfl⟩ (fun r_152 u_153 H locs hw hP hD hS => ?_)
          obtain ⟨v_154, v_155, v_156, v_157⟩ := u_153
          obtain ⟨hr_152, h_158, h_159, h_160, h_161, h_162, h_163⟩ := hw
          replace h_158 : 0 ≤ v_154.toInt ∧ v_154.toInt ≤ 900 := h_158
          replace h_159 : 0 ≤ v_155.toInt ∧ v_155.toInt ≤ 900 := h_159
          replace h_160 : v_154.toInt ≤ v_155.toInt := h_160
          replace h_161 : v_155.toInt ≤ (mf 9).toInt := h_161
          replace h_162 : v_156.toInt = 13 ∨ v_154.toInt < v_155.toInt := h_162
          replace h_163 : v_137.toInt ≤ v_154.toInt := h_163
          replace hP : va_P D vwCl [((mm 5), .inl (k 0, 409, .inl f_150)), ((mm 0), .inr (7, [.int (mf 0), .ref (mm 1), .ref (mm 2), .ref (mm 3), .ref (mm 4), .ref (mm 5), .int (mf 6), .int v_154, .int v_155, .int (mf 9), .int v_156, .int v_157, .int v_141, .int v_142, .int (mf 14), .int (mf 15), .int (mf 16), .ref (mm 6), .int (mf 18), .ref (mm 7), .ref (mm 8), .ref (mm 9), .int (mf 22), .ref (mm 10), .ref (mm 11), .int (mf 25), .int (mf 26), .ref (mm 12), .ref (mm 13), .int (mf 29), .ref (mm 14), .ref (mm 15), .ref (mm 16)])), ((mm 4), .inl (k 0, 900, .inl tf))] H := hP
          replace hD : va_D A [((mm 5), .inl (k 0, 409, .inl f_150)), ((mm 0), .inr (7, [.int (mf 0), .ref (mm 1), .ref (mm 2), .ref (mm 3), .ref (mm 4), .ref (mm 5), .int (mf 6), .int v_154, .int v_155, .int (mf 9), .int v_156, .int v_157, .int v_141, .int v_142, .int (mf 14), .int (mf 15), .int (mf 16), .ref (mm 6), .int (mf 18), .ref (mm 7), .ref (mm 8), .ref (mm 9), .int (mf 22), .ref (mm 10), .ref (mm 11), .int (mf 25), .int (mf 26), .ref (mm 12), .ref (mm 13), .int (mf 29), .ref (mm 14), .ref (mm 15), .ref (mm 16)])), ((mm 4), .inl (k 0, 900, .inl tf))] := hD
          replace hr_152 : r_152.toInt = 0 ∨ (r_152.toInt = 1 ∧ v_141.toInt = 0 ∧ v_139.toInt = 12 ∧ v_138.toInt ≤ v_154.toInt) := hr_152
          refine lv_if_ne (tgt := 154) hx hb dX8_readLine_146 (by decide) (fun c_164 => ?_) (fun c_164 => ?_)
          · have c_164 : r_152.toInt ≠ 0 := ti_ne c_164
            have qc_164 : r_152 = 1 := ti_of (show r_152.toInt = 1 from by omega)
            refine lv_aload_n hx hb dX8_readLine_154 rfl (lv_at hl 0 rfl) ?_
            refine va_get (D := D) (ci := 7) (v := .ref (mm 5)) (C := RX8) (T := TX8) (N := 33) hx hb hts inlX8 hown hK hP 1 rfl rfl 5 (by decide) (hts _ mwn_95) (fun _ h9 => h9) rfl dX8_readLine_155 ?_
            refine lv_bipush (v := 7) hx hb dX8_readLine_158 (by decide) ?_
            refine lv_dup2_11 hx hb dX8_readLine_160 rfl rfl ?_
            refine va_iald hx hb hK hP 0 0 rfl rfl (vp_in_c (by decide)) dX8_readLine_161 ?_
            refine lv_topi (fun z_165 ez_165 => ?_)
            refine lv_iconst (v := 1) hx hb dX8_readLine_162 (by decide) ?_
            refine lv_iadd hx hb dX8_readLine_163 ?_
            refine lv_topi (fun z_166 ez_166 => ?_)
            refine va_iast hx hb hK hP hD hS 0 0 rfl rfl (vp_in_c (by decide)) dX8_readLine_164 (fun H locs hP hD hS => ?_)
            replace hP : va_P D vwCl [((mm 5), .inl (k 0, 409, .inl (upd f_150 (7 : Int32).toNatClampNeg z_166))), ((mm 0), .inr (7, [.int (mf 0), .ref (mm 1), .ref (mm 2), .ref (mm 3), .ref (mm 4), .ref (mm 5), .int (mf 6), .int v_154, .int v_155, .int (mf 9), .int v_156, .int v_157, .int v_141, .int v_142, .int (mf 14), .int (mf 15), .int (mf 16), .ref (mm 6), .int (mf 18), .ref (mm 7), .ref (mm 8), .ref (mm 9), .int (mf 22), .ref (mm 10), .ref (mm 11), .int (mf 25), .int (mf 26), .ref (mm 12), .ref (mm 13), .int (mf 29), .ref (mm 14), .ref (mm 15), .ref (mm 16)])), ((mm 4), .inl (k 0, 900, .inl tf))] H := hP
            replace hD : va_D A [((mm 5), .inl (k 0, 409, .inl (upd f_150 (7 : Int32).toNatClampNeg z_166))), ((mm 0), .inr (7, [.int (mf 0), .ref (mm 1), .ref (mm 2), .ref (mm 3), .ref (mm 4), .ref (mm 5), .int (mf 6), .int v_154, .int v_155, .int (mf 9), .int v_156, .int v_157, .int v_141, .int v_142, .int (mf 14), .int (mf 15), .int (mf 16), .ref (mm 6), .int (mf 18), .ref (mm 7), .ref (mm 8), .ref (mm 9), .int (mf 22), .ref (mm 10), .ref (mm 11), .int (mf 25), .int (mf 26), .ref (mm 12), .ref (mm 13), .int (mf 29), .ref (mm 14), .ref (mm 15), .ref (mm 16)])), ((mm 4), .inl (k 0, 900, .inl tf))] := hD
            generalize ef_167 : (upd f_150 (7 : Int32).toNatClampNeg z_166) = f_167 at hP hD
            have hK_168 : FR v_141 f_167 := by rw [← ef_167]; exact FR_put (show FR v_141 f_150 from hK_151) (by decide) (by decide) (by decide)
            exact W.vret hx hb hr (fun t ht hW => ⟨⟨(v_154, v_155, v_156, v_157, v_141, v_142, f_167), rfl, ⟨(show 0 ≤ v_154.toInt ∧ v_154.toInt ≤ 900 from ⟨by omega, by omega⟩), (show 0 ≤ v_155.toInt ∧ v_155.toInt ≤ 900 from ⟨by omega, by omega⟩), (show v_154.toInt ≤ v_155.toInt from by omega), (show v_155.toInt ≤ (mf 9).toInt from by omega), (show v_156.toInt = 13 ∨ v_154.toInt < v_155.toInt from by omega), (show v_141.toInt ≠ 0 ∨ (mf 7).toInt < v_154.toInt from by omega), (show FR v_141 f_167 from hK_168)⟩, by rw [ht]; exact hP.sub [1, 2, 0] rfl, hD.sub [1, 2, 0] (by decide) rfl⟩, hS.F ht⟩) hS.2.2 dX8_readLine_165
          · have c_164 : r_152.toInt = 0 := ti_eq c_164
            have qc_164 : r_152 = 0 := ti_of (show r_152.toInt = 0 from by omega)
            refine lv_aload_n hx hb dX8_readLine_149 rfl (lv_at hl 0 rfl) ?_
            refine lv_iconst (v := 2) hx hb dX8_readLine_150 (by decide) ?_
            refine kV_uv (q0 := 0) (As := [.int 2]) (rest := []) (wr := [((mm 5), .inl (k 0, 409, .inl f_150)), ((mm 4), .inl (k 0, 900, .inl tf))]) ⟨hx, hb, hml, hown, hts⟩ (s_M_fails l D k _ (va_seli [(mf 0), 0, 0, 0, 0, 0, (mf 6), v_154, v_155, (mf 9), v_156, v_157, v_141, v_142, (mf 14), (mf 15), (mf 16), 0, (mf 18), 0, 0, 0, (mf 22), 0, 0, (mf 25), (mf 26), 0, 0, (mf 29)]) 2 _ (show 1 ≤ (2 : Int32).toInt ∧ (2 : Int32).toInt ≤ 4 from ⟨by decide, by decide⟩)) (gV mwn_331 mwn_332 mwn_333 mwn_5 mwn_334) hdn_yX8_fails rfl rfl ⟨Nat.le_of_ble_eq_true rfl, Nat.le_of_ble_eq_true rfl⟩ hK hN0 hP hD hS hA [1] [0, 2] rfl rfl (by decide) (by decide) (by decide) rfl rfl rfl rfl hl.1 rfl (Nat.le_of_ble_eq_true rfl) dX8_readLine_151 ⟨Nat.le_of_ble_eq_true rfl, Nat.le_of_ble_eq_true rfl⟩ (fun u_170 H locs hw hP hD hS => ?_)
            obtain ⟨v_171, v_172⟩ := u_170
            have h_173 := hw
            replace h_173 : v_171.toInt ≠ 0 := h_173
            replace hP : va_P D vwCl [((mm 5), .inl (k 0, 409, .inl f_150)), ((mm 4), .inl (k 0, 900, .inl tf)), ((mm 0), .inr (7, [.int (mf 0), .ref (mm 1), .ref (mm 2), .ref (mm 3), .ref (mm 4), .ref (mm 5), .int (mf 6), .int v_154, .int v_155, .int (mf 9), .int v_156, .int v_157, .int v_171, .int v_172, .int (mf 14), .int (mf 15), .int (mf 16), .ref (mm 6), .int (mf 18), .ref (mm 7), .ref (mm 8), .ref (mm 9), .int (mf 22), .ref (mm 10), .ref (mm 11), .int (mf 25), .int (mf 26), .ref (mm 12), .ref (mm 13), .int (mf 29), .ref (mm 14), .ref (mm 15), .ref (mm 16)]))] H := hP
            replace hD : va_D A [((mm 5), .inl (k 0, 409, .inl f_150)), ((mm 4), .inl (k 0, 900, .inl tf)), ((mm 0), .inr (7, [.int (mf 0), .ref (mm 1), .ref (mm 2), .ref (mm 3), .ref (mm 4), .ref (mm 5), .int (mf 6), .int v_154, .int v_155, .int (mf 9), .int v_156, .int v_157, .int v_171, .int v_172, .int (mf 14), .int (mf 15), .int (mf 16), .ref (mm 6), .int (mf 18), .ref (mm 7), .ref (mm 8), .ref (mm 9), .int (mf 22), .ref (mm 10), .ref (mm 11), .int (mf 25), .int (mf 26), .ref (mm 12), .ref (mm 13), .int (mf 29), .ref (mm 14), .ref (mm 15), .ref (mm 16)]))] := hD
            refine lv_aload_n hx hb dX8_readLine_154 rfl (lv_at hl 0 rfl) ?_
            refine va_get (D := D) (ci := 7) (v := .ref (mm 5)) (C := RX8) (T := TX8) (N := 33) hx hb hts inlX8 hown hK hP 2 rfl rfl 5 (by decide) (hts _ mwn_95) (fun _ h9 => h9) rfl dX8_readLine_155 ?_
            refine lv_bipush (v := 7) hx hb dX8_readLine_158 (by decide) ?_
            refine lv_dup2_11 hx hb dX8_readLine_160 rfl rfl ?_
            refine va_iald hx hb hK hP 0 0 rfl rfl (vp_in_c (by decide)) dX8_readLine_161 ?_
            refine lv_topi (fun z_174 ez_174 => ?_)
            refine lv_iconst (v := 1) hx hb dX8_readLine_162 (by decide) ?_
            refine lv_iadd hx hb dX8_readLine_163 ?_
            refine lv_topi (fun z_175 ez_175 => ?_)
            refine va_iast hx hb hK hP hD hS 0 0 rfl rfl (vp_in_c (by decide)) dX8_readLine_164 (fun H locs hP hD hS => ?_)
            replace hP : va_P D vwCl [((mm 5), .inl (k 0, 409, .inl (upd f_150 (7 : Int32).toNatClampNeg z_175))), ((mm 4), .inl (k 0, 900, .inl tf)), ((mm 0), .inr (7, [.int (mf 0), .ref (mm 1), .ref (mm 2), .ref (mm 3), .ref (mm 4), .ref (mm 5), .int (mf 6), .int v_154, .int v_155, .int (mf 9), .int v_156, .int v_157, .int v_171, .int v_172, .int (mf 14), .int (mf 15), .int (mf 16), .ref (mm 6), .int (mf 18), .ref (mm 7), .ref (mm 8), .ref (mm 9), .int (mf 22), .ref (mm 10), .ref (mm 11), .int (mf 25), .int (mf 26), .ref (mm 12), .ref (mm 13), .int (mf 29), .ref (mm 14), .ref (mm 15), .ref (mm 16)]))] H := hP
            replace hD : va_D A [((mm 5), .inl (k 0, 409, .inl (upd f_150 (7 : Int32).toNatClampNeg z_175))), ((mm 4), .inl (k 0, 900, .inl tf)), ((mm 0), .inr (7, [.int (mf 0), .ref (mm 1), .ref (mm 2), .ref (mm 3), .ref (mm 4), .ref (mm 5), .int (mf 6), .int v_154, .int v_155, .int (mf 9), .int v_156, .int v_157, .int v_171, .int v_172, .int (mf 14), .int (mf 15), .int (mf 16), .ref (mm 6), .int (mf 18), .ref (mm 7), .ref (mm 8), .ref (mm 9), .int (mf 22), .ref (mm 10), .ref (mm 11), .int (mf 25), .int (mf 26), .ref (mm 12), .ref (mm 13), .int (mf 29), .ref (mm 14), .ref (mm 15), .ref (mm 16)]))] := hD
            generalize ef_176 : (upd f_150 (7 : Int32).toNatClampNeg z_175) = f_176 at hP hD
            have hK_177 : FR v_171 f_176 := by rw [← ef_176]; exact FR_put (show FR v_171 f_150 from (by first | exact Or.inl (by omega) | exact FR_w hK_151 (by omega) | (rcases (show v_171.toInt ≠ 0 ∨ v_141.toInt = 0 from by omega) with q | q <;> first | exact Or.inl q | exact FR_w hK_151 q))) (by decide) (by decide) (by decide)
            exact W.vret hx hb hr (fun t ht hW => ⟨⟨(v_154, v_155, v_156, v_157, v_171, v_172, f_176), rfl, ⟨(show 0 ≤ v_154.toInt ∧ v_154.toInt ≤ 900 from ⟨by omega, by omega⟩), (show 0 ≤ v_155.toInt ∧ v_155.toInt ≤ 900 from ⟨by omega, by omega⟩), (show v_154.toInt ≤ v_155.toInt from by omega), (show v_155.toInt ≤ (mf 9).toInt from by omega), (show v_156.toInt = 13 ∨ v_154.toInt < v_155.toInt from by omega), (show v_171.toInt ≠ 0 ∨ (mf 7).toInt < v_154.toInt from by omega), (show FR v_171 f_176 from hK_177)⟩, by rw [ht]; exact hP.sub [2, 1, 0] rfl, hD.sub [2, 1, 0] (by decide) rfl⟩, hS.F ht⟩) hS.2.2 dX8_readLine_165
      · have c_17 : r_16.toInt ≠ 0 := ti_ne c_17
        have qc_17 : r_16 = 1 := ti_of (show r_16.toInt = 1 from by omega)
        refine lv_aload_n hx hb dX8_readLine_44 rfl (lv_at hl 0 rfl) ?_
        refine va_get (D := D) (ci := 7) (v := .ref (mm 5)) (C := RX8) (T := TX8) (N := 33) hx hb hts inlX8 hown hK hP 1 rfl rfl 5 (by decide) (hts _ mwn_95) (fun _ h9 => h9) rfl dX8_readLine_45 ?_
        refine lv_iconst (v := 0) hx hb dX8_readLine_48 (by decide) ?_
        refine va_iald hx hb hK hP 0 0 rfl rfl (vp_in_c (by decide)) dX8_readLine_49 ?_
        refine lv_topi (fun z_178 ez_178 => ?_)
        refine lv_if_ne (tgt := 73) hx hb dX8_readLine_50 (by decide) (fun c_179 => ?_) (fun c_179 => ?_)
        · have c_179 : z_178.toInt ≠ 0 := ti_ne c_179
          refine lv_aload_n hx hb dX8_readLine_73 rfl (lv_at hl 0 rfl) ?_
          refine lv_iconst (v := 1) hx hb dX8_readLine_74 (by decide) ?_
          refine kV_uis (q0 := 0) (As := [.int 1]) (rest := []) (wr := [((mm 5), .inl (k 0, 409, .inl ef))]) ⟨hx, hb, hml, hown, hts⟩ (s_M_eats l D k ak av _ (va_seli [(mf 0), 0, 0, 0, 0, 0, (mf 6), v_5, v_6, (mf 9), v_7, v_8, (mf 12), (mf 13), (mf 14), (mf 15), (mf 16), 0, (mf 18), 0, 0, 0, (mf 22), 0, 0, (mf 25), (mf 26), 0, 0, (mf 29)]) tf 1 _ (show 0 ≤ v_5.toInt ∧ v_5.toInt ≤ 900 from ⟨by omega, by omega⟩) (show 0 ≤ v_6.toInt ∧ v_6.toInt ≤ 900 from ⟨by omega, by omega⟩) (show 0 ≤ (mf 9).toInt ∧ (mf 9).toInt ≤ 900 from ⟨by omega, by omega⟩) (show v_5.toInt ≤ v_6.toInt from by omega) (show v_6.toInt ≤ (mf 9).toInt from by omega) (show v_7.toInt = 13 ∨ v_5.toInt < v_6.toInt from by omega)) (gV mwn_343 mwn_344 mwn_345 mwn_5 mwn_346) hdn_yX8_eats rfl rfl ⟨Nat.le_of_ble_eq_true rfl, Nat.le_of_ble_eq_true rfl⟩ hK hN0 hW0 hS hP hD hS hA [1, 2] [0] rfl rfl (by decide) (by decide) (by decide) rfl rfl rfl rfl hl.1 rfl (Nat.le_of_ble_eq_true rfl) dX8_readLine_75 ⟨Nat.le_of_ble_eq_true rfl, Nat.le_of_ble_eq_true rfl⟩ (fun r_180 u_181 H locs hw hP hD hS => ?_)
          obtain ⟨v_182, v_183, v_184, v_185⟩ := u_181
          obtain ⟨hr_180, h_186, h_187, h_188, h_189, h_190, h_191⟩ := hw
          replace h_186 : 0 ≤ v_182.toInt ∧ v_182.toInt ≤ 900 := h_186
          replace h_187 : 0 ≤ v_183.toInt ∧ v_183.toInt ≤ 900 := h_187
          replace h_188 : v_182.toInt ≤ v_183.toInt := h_188
          replace h_189 : v_183.toInt ≤ (mf 9).toInt := h_189
          replace h_190 : v_184.toInt = 13 ∨ v_182.toInt < v_183.toInt := h_190
          replace h_191 : v_5.toInt ≤ v_182.toInt := h_191
          replace hP : va_P D vwCl [((mm 5), .inl (k 0, 409, .inl ef)), ((mm 0), .inr (7, [.int (mf 0), .ref (mm 1), .ref (mm 2), .ref (mm 3), .ref (mm 4), .ref (mm 5), .int (mf 6), .int v_182, .int v_183, .int (mf 9), .int v_184, .int v_185, .int (mf 12), .int (mf 13), .int (mf 14), .int (mf 15), .int (mf 16), .ref (mm 6), .int (mf 18), .ref (mm 7), .ref (mm 8), .ref (mm 9), .int (mf 22), .ref (mm 10), .ref (mm 11), .int (mf 25), .int (mf 26), .ref (mm 12), .ref (mm 13), .int (mf 29), .ref (mm 14), .ref (mm 15), .ref (mm 16)])), ((mm 4), .inl (k 0, 900, .inl tf))] H := hP
          replace hD : va_D A [((mm 5), .inl (k 0, 409, .inl ef)), ((mm 0), .inr (7, [.int (mf 0), .ref (mm 1), .ref (mm 2), .ref (mm 3), .ref (mm 4), .ref (mm 5), .int (mf 6), .int v_182, .int v_183, .int (mf 9), .int v_184, .int v_185, .int (mf 12), .int (mf 13), .int (mf 14), .int (mf 15), .int (mf 16), .ref (mm 6), .int (mf 18), .ref (mm 7), .ref (mm 8), .ref (mm 9), .int (mf 22), .ref (mm 10), .ref (mm 11), .int (mf 25), .int (mf 26), .ref (mm 12), .ref (mm 13), .int (mf 29), .ref (mm 14), .ref (mm 15), .ref (mm 16)])), ((mm 4), .inl (k 0, 900, .inl tf))] := hD
          replace hr_180 : r_180.toInt = 0 ∨ (r_180.toInt = 1 ∧ (mf 12).toInt = 0 ∧ v_7.toInt = 1 ∧ v_6.toInt ≤ v_182.toInt) := hr_180
          refine lv_if_eq (tgt := 110) hx hb dX8_readLine_78 (by decide) (fun c_192 => ?_) (fun c_192 => ?_)
          · have c_192 : r_180.toInt = 0 := ti_eq c_192
            have qc_192 : r_180 = 0 := ti_of (show r_180.toInt = 0 from by omega)
            refine lv_aload_n hx hb dX8_readLine_110 rfl (lv_at hl 0 rfl) ?_
            refine lv_bipush (v := 9) hx hb dX8_readLine_111 (by decide) ?_
            refine kV_uis (q0 := 0) (As := [.int 9]) (rest := []) (wr := [((mm 5), .inl (k 0, 409, .inl ef))]) ⟨hx, hb, hml, hown, hts⟩ (s_M_eats l D k ak av _ (va_seli [(mf 0), 0, 0, 0, 0, 0, (mf 6), v_182, v_183, (mf 9), v_184, v_185, (mf 12), (mf 13), (mf 14), (mf 15), (mf 16), 0, (mf 18), 0, 0, 0, (mf 22), 0, 0, (mf 25), (mf 26), 0, 0, (mf 29)]) tf 9 _ (show 0 ≤ v_182.toInt ∧ v_182.toInt ≤ 900 from ⟨by omega, by omega⟩) (show 0 ≤ v_183.toInt ∧ v_183.toInt ≤ 900 from ⟨by omega, by omega⟩) (show 0 ≤ (mf 9).toInt ∧ (mf 9).toInt ≤ 900 from ⟨by omega, by omega⟩) (show v_182.toInt ≤ v_183.toInt from by omega) (show v_183.toInt ≤ (mf 9).toInt from by omega) (show v_184.toInt = 13 ∨ v_182.toInt < v_183.toInt from by omega)) (gV mwn_343 mwn_344 mwn_345 mwn_5 mwn_346) hdn_yX8_eats rfl rfl ⟨Nat.le_of_ble_eq_true rfl, Nat.le_of_ble_eq_true rfl⟩ hK hN0 hW0 hS hP hD hS hA [1, 2] [0] rfl rfl (by decide) (by decide) (by decide) rfl rfl rfl rfl hl.1 rfl (Nat.le_of_ble_eq_true rfl) dX8_readLine_113 ⟨Nat.le_of_ble_eq_true rfl, Nat.le_of_ble_eq_true rfl⟩ (fun r_193 u_194 H locs hw hP hD hS => ?_)
            obtain ⟨v_195, v_196, v_197, v_198⟩ := u_194
            obtain ⟨hr_193, h_199, h_200, h_201, h_202, h_203, h_204⟩ := hw
            replace h_199 : 0 ≤ v_195.toInt ∧ v_195.toInt ≤ 900 := h_199
            replace h_200 : 0 ≤ v_196.toInt ∧ v_196.toInt ≤ 900 := h_200
            replace h_201 : v_195.toInt ≤ v_196.toInt := h_201
            replace h_202 : v_196.toInt ≤ (mf 9).toInt := h_202
            replace h_203 : v_197.toInt = 13 ∨ v_195.toInt < v_196.toInt := h_203
            replace h_204 : v_182.toInt ≤ v_195.toInt := h_204
            replace hP : va_P D vwCl [((mm 5), .inl (k 0, 409, .inl ef)), ((mm 0), .inr (7, [.int (mf 0), .ref (mm 1), .ref (mm 2), .ref (mm 3), .ref (mm 4), .ref (mm 5), .int (mf 6), .int v_195, .int v_196, .int (mf 9), .int v_197, .int v_198, .int (mf 12), .int (mf 13), .int (mf 14), .int (mf 15), .int (mf 16), .ref (mm 6), .int (mf 18), .ref (mm 7), .ref (mm 8), .ref (mm 9), .int (mf 22), .ref (mm 10), .ref (mm 11), .int (mf 25), .int (mf 26), .ref (mm 12), .ref (mm 13), .int (mf 29), .ref (mm 14), .ref (mm 15), .ref (mm 16)])), ((mm 4), .inl (k 0, 900, .inl tf))] H := hP
            replace hD : va_D A [((mm 5), .inl (k 0, 409, .inl ef)), ((mm 0), .inr (7, [.int (mf 0), .ref (mm 1), .ref (mm 2), .ref (mm 3), .ref (mm 4), .ref (mm 5), .int (mf 6), .int v_195, .int v_196, .int (mf 9), .int v_197, .int v_198, .int (mf 12), .int (mf 13), .int (mf 14), .int (mf 15), .int (mf 16), .ref (mm 6), .int (mf 18), .ref (mm 7), .ref (mm 8), .ref (mm 9), .int (mf 22), .ref (mm 10), .ref (mm 11), .int (mf 25), .int (mf 26), .ref (mm 12), .ref (mm 13), .int (mf 29), .ref (mm 14), .ref (mm 15), .ref (mm 16)])), ((mm 4), .inl (k 0, 900, .inl tf))] := hD
            replace hr_193 : r_193.toInt = 0 ∨ (r_193.toInt = 1 ∧ (mf 12).toInt = 0 ∧ v_184.toInt = 9 ∧ v_183.toInt ≤ v_195.toInt) := hr_193
            refine lv_if_eq (tgt := 135) hx hb dX8_readLine_116 (by decide) (fun c_205 => ?_) (fun c_205 => ?_)
            · have c_205 : r_193.toInt = 0 := ti_eq c_205
              have qc_205 : r_193 = 0 := ti_of (show r_193.toInt = 0 from by omega)
              refine lv_aload_n hx hb dX8_readLine_135 rfl (lv_at hl 0 rfl) ?_
              refine lv_iconst (v := 2) hx hb dX8_readLine_136 (by decide) ?_
              refine kV_uv (q0 := 0) (As := [.int 2]) (rest := []) (wr := [((mm 5), .inl (k 0, 409, .inl ef)), ((mm 4), .inl (k 0, 900, .inl tf))]) ⟨hx, hb, hml, hown, hts⟩ (s_M_fails l D k _ (va_seli [(mf 0), 0, 0, 0, 0, 0, (mf 6), v_195, v_196, (mf 9), v_197, v_198, (mf 12), (mf 13), (mf 14), (mf 15), (mf 16), 0, (mf 18), 0, 0, 0, (mf 22), 0, 0, (mf 25), (mf 26), 0, 0, (mf 29)]) 2 _ (show 1 ≤ (2 : Int32).toInt ∧ (2 : Int32).toInt ≤ 4 from ⟨by decide, by decide⟩)) (gV mwn_331 mwn_332 mwn_333 mwn_5 mwn_334) hdn_yX8_fails rfl rfl ⟨Nat.le_of_ble_eq_true rfl, Nat.le_of_ble_eq_true rfl⟩ hK hN0 hP hD hS hA [1] [0, 2] rfl rfl (by decide) (by decide) (by decide) rfl rfl rfl rfl hl.1 rfl (Nat.le_of_ble_eq_true rfl) dX8_readLine_137 ⟨Nat.le_of_ble_eq_true rfl, Nat.le_of_ble_eq_true rfl⟩ (fun u_207 H locs hw hP hD hS => ?_)
              obtain ⟨v_208, v_209⟩ := u_207
              have h_210 := hw
              replace h_210 : v_208.toInt ≠ 0 := h_210
              replace hP : va_P D vwCl [((mm 5), .inl (k 0, 409, .inl ef)), ((mm 4), .inl (k 0, 900, .inl tf)), ((mm 0), .inr (7, [.int (mf 0), .ref (mm 1), .ref (mm 2), .ref (mm 3), .ref (mm 4), .ref (mm 5), .int (mf 6), .int v_195, .int v_196, .int (mf 9), .int v_197, .int v_198, .int v_208, .int v_209, .int (mf 14), .int (mf 15), .int (mf 16), .ref (mm 6), .int (mf 18), .ref (mm 7), .ref (mm 8), .ref (mm 9), .int (mf 22), .ref (mm 10), .ref (mm 11), .int (mf 25), .int (mf 26), .ref (mm 12), .ref (mm 13), .int (mf 29), .ref (mm 14), .ref (mm 15), .ref (mm 16)]))] H := hP
              replace hD : va_D A [((mm 5), .inl (k 0, 409, .inl ef)), ((mm 4), .inl (k 0, 900, .inl tf)), ((mm 0), .inr (7, [.int (mf 0), .ref (mm 1), .ref (mm 2), .ref (mm 3), .ref (mm 4), .ref (mm 5), .int (mf 6), .int v_195, .int v_196, .int (mf 9), .int v_197, .int v_198, .int v_208, .int v_209, .int (mf 14), .int (mf 15), .int (mf 16), .ref (mm 6), .int (mf 18), .ref (mm 7), .ref (mm 8), .ref (mm 9), .int (mf 22), .ref (mm 10), .ref (mm 11), .int (mf 25), .int (mf 26), .ref (mm 12), .ref (mm 13), .int (mf 29), .ref (mm 14), .ref (mm 15), .ref (mm 16)]))] := hD
              refine lv_aload_n hx hb dX8_readLine_140 rfl (lv_at hl 0 rfl) ?_
              refine lv_bipush (v := 12) hx hb dX8_readLine_141 (by decide) ?_
              refine kV_uis (q0 := 0) (As := [.int 12]) (rest := []) (wr := [((mm 5), .inl (k 0, 409, .inl ef))]) ⟨hx, hb, hml, hown, hts⟩ (s_M_eats l D k ak av _ (va_seli [(mf 0), 0, 0, 0, 0, 0, (mf 6), v_195, v_196, (mf 9), v_197, v_198, v_208, v_209, (mf 14), (mf 15), (mf 16), 0, (mf 18), 0, 0, 0, (mf 22), 0, 0, (mf 25), (mf 26), 0, 0, (mf 29)]) tf 12 _ (show 0 ≤ v_195.toInt ∧ v_195.toInt ≤ 900 from ⟨by omega, by omega⟩) (show 0 ≤ v_196.toInt ∧ v_196.toInt ≤ 900 from ⟨by omega, by omega⟩) (show 0 ≤ (mf 9).toInt ∧ (mf 9).toInt ≤ 900 from ⟨by omega, by omega⟩) (show v_195.toInt ≤ v_196.toInt from by omega) (show v_196.toInt ≤ (mf 9).toInt from by omega) (show v_197.toInt = 13 ∨ v_195.toInt < v_196.toInt from by omega)) (gV mwn_343 mwn_344 mwn_345 mwn_5 mwn_346) hdn_yX8_eats rfl rfl ⟨Nat.le_of_ble_eq_true rfl, Nat.le_of_ble_eq_true rfl⟩ hK hN0 hW0 hS hP hD hS hA [2, 1] [0] rfl rfl (by decide) (by decide) (by decide) rfl rfl rfl rfl hl.1 rfl (Nat.le_of_ble_eq_true rfl) dX8_readLine_143 ⟨Nat.le_of_ble_eq_true rfl, Nat.le_of_ble_eq_true rfl⟩ (fun r_211 u_212 H locs hw hP hD hS => ?_)
              obtain ⟨v_213, v_214, v_215, v_216⟩ := u_212
              obtain ⟨hr_211, h_217, h_218, h_219, h_220, h_221, h_222⟩ := hw
              replace h_217 : 0 ≤ v_213.toInt ∧ v_213.toInt ≤ 900 := h_217
              replace h_218 : 0 ≤ v_214.toInt ∧ v_214.toInt ≤ 900 := h_218
              replace h_219 : v_213.toInt ≤ v_214.toInt := h_219
              replace h_220 : v_214.toInt ≤ (mf 9).toInt := h_220
              replace h_221 : v_215.toInt = 13 ∨ v_213.toInt < v_214.toInt := h_221
              replace h_222 : v_195.toInt ≤ v_213.toInt := h_222
              replace hP : va_P D vwCl [((mm 5), .inl (k 0, 409, .inl ef)), ((mm 0), .inr (7, [.int (mf 0), .ref (mm 1), .ref (mm 2), .ref (mm 3), .ref (mm 4), .ref (mm 5), .int (mf 6), .int v_213, .int v_214, .int (mf 9), .int v_215, .int v_216, .int v_208, .int v_209, .int (mf 14), .int (mf 15), .int (mf 16), .ref (mm 6), .int (mf 18), .ref (mm 7), .ref (mm 8), .ref (mm 9), .int (mf 22), .ref (mm 10), .ref (mm 11), .int (mf 25), .int (mf 26), .ref (mm 12), .ref (mm 13), .int (mf 29), .ref (mm 14), .ref (mm 15), .ref (mm 16)])), ((mm 4), .inl (k 0, 900, .inl tf))] H := hP
              replace hD : va_D A [((mm 5), .inl (k 0, 409, .inl ef)), ((mm 0), .inr (7, [.int (mf 0), .ref (mm 1), .ref (mm 2), .ref (mm 3), .ref (mm 4), .ref (mm 5), .int (mf 6), .int v_213, .int v_214, .int (mf 9), .int v_215, .int v_216, .int v_208, .int v_209, .int (mf 14), .int (mf 15), .int (mf 16), .ref (mm 6), .int (mf 18), .ref (mm 7), .ref (mm 8), .ref (mm 9), .int (mf 22), .ref (mm 10), .ref (mm 11), .int (mf 25), .int (mf 26), .ref (mm 12), .ref (mm 13), .int (mf 29), .ref (mm 14), .ref (mm 15), .ref (mm 16)])), ((mm 4), .inl (k 0, 900, .inl tf))] := hD
              replace hr_211 : r_211.toInt = 0 ∨ (r_211.toInt = 1 ∧ v_208.toInt = 0 ∧ v_197.toInt = 12 ∧ v_196.toInt ≤ v_213.toInt) := hr_211
              refine lv_if_ne (tgt := 154) hx hb dX8_readLine_146 (by decide) (fun c_223 => ?_) (fun c_223 => ?_)
              · have c_223 : r_211.toInt ≠ 0 := ti_ne c_223
                have qc_223 : r_211 = 1 := ti_of (show r_211.toInt = 1 from by omega)
                refine lv_aload_n hx hb dX8_readLine_154 rfl (lv_at hl 0 rfl) ?_
                refine va_get (D := D) (ci := 7) (v := .ref (mm 5)) (C := RX8) (T := TX8) (N := 33) hx hb hts inlX8 hown hK hP 1 rfl rfl 5 (by decide) (hts _ mwn_95) (fun _ h9 => h9) rfl dX8_readLine_155 ?_
                refine lv_bipush (v := 7) hx hb dX8_readLine_158 (by decide) ?_
                refine lv_dup2_11 hx hb dX8_readLine_160 rfl rfl ?_
                refine va_iald hx hb hK hP 0 0 rfl rfl (vp_in_c (by decide)) dX8_readLine_161 ?_
                refine lv_topi (fun z_224 ez_224 => ?_)
                refine lv_iconst (v := 1) hx hb dX8_readLine_162 (by decide) ?_
                refine lv_iadd hx hb dX8_readLine_163 ?_
                refine lv_topi (fun z_225 ez_225 => ?_)
                refine va_iast hx hb hK hP hD hS 0 0 rfl rfl (vp_in_c (by decide)) dX8_readLine_164 (fun H locs hP hD hS => ?_)
                replace hP : va_P D vwCl [((mm 5), .inl (k 0, 409, .inl (upd ef (7 : Int32).toNatClampNeg z_225))), ((mm 0), .inr (7, [.int (mf 0), .ref (mm 1), .ref (mm 2), .ref (mm 3), .ref (mm 4), .ref (mm 5), .int (mf 6), .int v_213, .int v_214, .int (mf 9), .int v_215, .int v_216, .int v_208, .int v_209, .int (mf 14), .int (mf 15), .int (mf 16), .ref (mm 6), .int (mf 18), .ref (mm 7), .ref (mm 8), .ref (mm 9), .int (mf 22), .ref (mm 10), .ref (mm 11), .int (mf 25), .int (mf 26), .ref (mm 12), .ref (mm 13), .int (mf 29), .ref (mm 14), .ref (mm 15), .ref (mm 16)])), ((mm 4), .inl (k 0, 900, .inl tf))] H := hP
                replace hD : va_D A [((mm 5), .inl (k 0, 409, .inl (upd ef (7 : Int32).toNatClampNeg z_225))), ((mm 0), .inr (7, [.int (mf 0), .ref (mm 1), .ref (mm 2), .ref (mm 3), .ref (mm 4), .ref (mm 5), .int (mf 6), .int v_213, .int v_214, .int (mf 9), .int v_215, .int v_216, .int v_208, .int v_209, .int (mf 14), .int (mf 15), .int (mf 16), .ref (mm 6), .int (mf 18), .ref (mm 7), .ref (mm 8), .ref (mm 9), .int (mf 22), .ref (mm 10), .ref (mm 11), .int (mf 25), .int (mf 26), .ref (mm 12), .ref (mm 13), .int (mf 29), .ref (mm 14), .ref (mm 15), .ref (mm 16)])), ((mm 4), .inl (k 0, 900, .inl tf))] := hD
                generalize ef_226 : (upd ef (7 : Int32).toNatClampNeg z_225) = f_226 at hP hD
                have hK_227 : FR v_208 f_226 := by rw [← ef_226]; exact FR_put (show FR v_208 ef from (by first | exact Or.inl (by omega) | exact FR_w w_fr (by omega) | (rcases (show v_208.toInt ≠ 0 ∨ (mf 12).toInt = 0 from by omega) with q | q <;> first | exact Or.inl q | exact FR_w w_fr q))) (by decide) (by decide) (by decide)
                exact W.vret hx hb hr (fun t ht hW => ⟨⟨(v_213, v_214, v_215, v_216, v_208, v_209, f_226), rfl, ⟨(show 0 ≤ v_213.toInt ∧ v_213.toInt ≤ 900 from ⟨by omega, by omega⟩), (show 0 ≤ v_214.toInt ∧ v_214.toInt ≤ 900 from ⟨by omega, by omega⟩), (show v_213.toInt ≤ v_214.toInt from by omega), (show v_214.toInt ≤ (mf 9).toInt from by omega), (show v_215.toInt = 13 ∨ v_213.toInt < v_214.toInt from by omega), (show v_208.toInt ≠ 0 ∨ (mf 7).toInt < v_213.toInt from by omega), (show FR v_208 f_226 from hK_227)⟩, by rw [ht]; exact hP.sub [1, 2, 0] rfl, hD.sub [1, 2, 0] (by decide) rfl⟩, hS.F ht⟩) hS.2.2 dX8_readLine_165
              · have c_223 : r_211.toInt = 0 := ti_eq c_223
                have qc_223 : r_211 = 0 := ti_of (show r_211.toInt = 0 from by omega)
                refine lv_aload_n hx hb dX8_readLine_149 rfl (lv_at hl 0 rfl) ?_
                refine lv_iconst (v := 2) hx hb dX8_readLine_150 (by decide) ?_
                refine kV_uv (q0 := 0) (As := [.int 2]) (rest := []) (wr := [((mm 5), .inl (k 0, 409, .inl ef)), ((mm 4), .inl (k 0, 900, .inl tf))]) ⟨hx, hb, hml, hown, hts⟩ (s_M_fails l D k _ (va_seli [(mf 0), 0, 0, 0, 0, 0, (mf 6), v_213, v_214, (mf 9), v_215, v_216, v_208, v_209, (mf 14), (mf 15), (mf 16), 0, (mf 18), 0, 0, 0, (mf 22), 0, 0, (mf 25), (mf 26), 0, 0, (mf 29)]) 2 _ (show 1 ≤ (2 : Int32).toInt ∧ (2 : Int32).toInt ≤ 4 from ⟨by decide, by decide⟩)) (gV mwn_331 mwn_332 mwn_333 mwn_5 mwn_334) hdn_yX8_fails rfl rfl ⟨Nat.le_of_ble_eq_true rfl, Nat.le_of_ble_eq_true rfl⟩ hK hN0 hP hD hS hA [1] [0, 2] rfl rfl (by decide) (by decide) (by decide) rfl rfl rfl rfl hl.1 rfl (Nat.le_of_ble_eq_true rfl) dX8_readLine_151 ⟨Nat.le_of_ble_eq_true rfl, Nat.le_of_ble_eq_true rfl⟩ (fun u_229 H locs hw hP hD hS => ?_)
                obtain ⟨v_230, v_231⟩ := u_229
                have h_232 := hw
                replace h_232 : v_230.toInt ≠ 0 := h_232
                replace hP : va_P D vwCl [((mm 5), .inl (k 0, 409, .inl ef)), ((mm 4), .inl (k 0, 900, .inl tf)), ((mm 0), .inr (7, [.int (mf 0), .ref (mm 1), .ref (mm 2), .ref (mm 3), .ref (mm 4), .ref (mm 5), .int (mf 6), .int v_213, .int v_214, .int (mf 9), .int v_215, .int v_216, .int v_230, .int v_231, .int (mf 14), .int (mf 15), .int (mf 16), .ref (mm 6), .int (mf 18), .ref (mm 7), .ref (mm 8), .ref (mm 9), .int (mf 22), .ref (mm 10), .ref (mm 11), .int (mf 25), .int (mf 26), .ref (mm 12), .ref (mm 13), .int (mf 29), .ref (mm 14), .ref (mm 15), .ref (mm 16)]))] H := hP
                replace hD : va_D A [((mm 5), .inl (k 0, 409, .inl ef)), ((mm 4), .inl (k 0, 900, .inl tf)), ((mm 0), .inr (7, [.int (mf 0), .ref (mm 1), .ref (mm 2), .ref (mm 3), .ref (mm 4), .ref (mm 5), .int (mf 6), .int v_213, .int v_214, .int (mf 9), .int v_215, .int v_216, .int v_230, .int v_231, .int (mf 14), .int (mf 15), .int (mf 16), .ref (mm 6), .int (mf 18), .ref (mm 7), .ref (mm 8), .ref (mm 9), .int (mf 22), .ref (mm 10), .ref (mm 11), .int (mf 25), .int (mf 26), .ref (mm 12), .ref (mm 13), .int (mf 29), .ref (mm 14), .ref (mm 15), .ref (mm 16)]))] := hD
                refine lv_aload_n hx hb dX8_readLine_154 rfl (lv_at hl 0 rfl) ?_
                refine va_get (D := D) (ci := 7) (v := .ref (mm 5)) (C := RX8) (T := TX8) (N := 33) hx hb hts inlX8 hown hK hP 2 rfl rfl 5 (by decide) (hts _ mwn_95) (fun _ h9 => h9) rfl dX8_readLine_155 ?_
                refine lv_bipush (v := 7) hx hb dX8_readLine_158 (by decide) ?_
                refine lv_dup2_11 hx hb dX8_readLine_160 rfl rfl ?_
                refine va_iald hx hb hK hP 0 0 rfl rfl (vp_in_c (by decide)) dX8_readLine_161 ?_
                refine lv_topi (fun z_233 ez_233 => ?_)
                refine lv_iconst (v := 1) hx hb dX8_readLine_162 (by decide) ?_
                refine lv_iadd hx hb dX8_readLine_163 ?_
                refine lv_topi (fun z_234 ez_234 => ?_)
                refine va_iast hx hb hK hP hD hS 0 0 rfl rfl (vp_in_c (by decide)) dX8_readLine_164 (fun H locs hP hD hS => ?_)
                replace hP : va_P D vwCl [((mm 5), .inl (k 0, 409, .inl (upd ef (7 : Int32).toNatClampNeg z_234))), ((mm 4), .inl (k 0, 900, .inl tf)), ((mm 0), .inr (7, [.int (mf 0), .ref (mm 1), .ref (mm 2), .ref (mm 3), .ref (mm 4), .ref (mm 5), .int (mf 6), .int v_213, .int v_214, .int (mf 9), .int v_215, .int v_216, .int v_230, .int v_231, .int (mf 14), .int (mf 15), .int (mf 16), .ref (mm 6), .int (mf 18), .ref (mm 7), .ref (mm 8), .ref (mm 9), .int (mf 22), .ref (mm 10), .ref (mm 11), .int (mf 25), .int (mf 26), .ref (mm 12), .ref (mm 13), .int (mf 29), .ref (mm 14), .ref (mm 15), .ref (mm 16)]))] H := hP
                replace hD : va_D A [((mm 5), .inl (k 0, 409, .inl (upd ef (7 : Int32).toNatClampNeg z_234))), ((mm 4), .inl (k 0, 900, .inl tf)), ((mm 0), .inr (7, [.int (mf 0), .ref (mm 1), .ref (mm 2), .ref (mm 3), .ref (mm 4), .ref (mm 5), .int (mf 6), .int v_213, .int v_214, .int (mf 9), .int v_215, .int v_216, .int v_230, .int v_231, .int (mf 14), .int (mf 15), .int (mf 16), .ref (mm 6), .int (mf 18), .ref (mm 7), .ref (mm 8), .ref (mm 9), .int (mf 22), .ref (mm 10), .ref (mm 11), .int (mf 25), .int (mf 26), .ref (mm 12), .ref (mm 13), .int (mf 29), .ref (mm 14), .ref (mm 15), .ref (mm 16)]))] := hD
                generalize ef_235 : (upd ef (7 : Int32).toNatClampNeg z_234) = f_235 at hP hD
                have hK_236 : FR v_230 f_235 := by rw [← ef_235]; exact FR_put (show FR v_230 ef from (by first | exact Or.inl (by omega) | exact FR_w w_fr (by omega) | (rcases (show v_230.toInt ≠ 0 ∨ (mf 12).toInt = 0 from by omega) with q | q <;> first | exact Or.inl q | exact FR_w w_fr q))) (by decide) (by decide) (by decide)
                exact W.vret hx hb hr (fun t ht hW => ⟨⟨(v_213, v_214, v_215, v_216, v_230, v_231, f_235), rfl, ⟨(show 0 ≤ v_213.toInt ∧ v_213.toInt ≤ 900 from ⟨by omega, by omega⟩), (show 0 ≤ v_214.toInt ∧ v_214.toInt ≤ 900 from ⟨by omega, by omega⟩), (show v_213.toInt ≤ v_214.toInt from by omega), (show v_214.toInt ≤ (mf 9).toInt from by omega), (show v_215.toInt = 13 ∨ v_213.toInt < v_214.toInt from by omega), (show v_230.toInt ≠ 0 ∨ (mf 7).toInt < v_213.toInt from by omega), (show FR v_230 f_235 from hK_236)⟩, by rw [ht]; exact hP.sub [2, 1, 0] rfl, hD.sub [2, 1, 0] (by decide) rfl⟩, hS.F ht⟩) hS.2.2 dX8_readLine_165
            · have c_205 : r_193.toInt ≠ 0 := ti_ne c_205
              have qc_205 : r_193 = 1 := ti_of (show r_193.toInt = 1 from by omega)
              refine lv_aload_n hx hb dX8_readLine_119 rfl (lv_at hl 0 rfl) ?_
              refine va_get (D := D) (ci := 7) (v := .ref (mm 5)) (C := RX8) (T := TX8) (N := 33) hx hb hts inlX8 hown hK hP 1 rfl rfl 5 (by decide) (hts _ mwn_95) (fun _ h9 => h9) rfl dX8_readLine_120 ?_
              refine lv_iconst (v := 5) hx hb dX8_readLine_123 (by decide) ?_
              refine lv_aload_n hx hb dX8_readLine_124 rfl (lv_at hl 0 rfl) ?_
              refine lv_iconst (v := 2) hx hb dX8_readLine_125 (by decide) ?_
              refine lv_bipush (v := 6) hx hb dX8_readLine_126 (by decide) ?_
              refine kV_uis (q0 := 0) (As := [.int 2, .int 6]) (rest := [.int 5, .ref (mm 5)]) (wr := [((mm 5), .inl (k 0, 409, .inl ef))]) ⟨hx, hb, hml, hown, hts⟩ (s_M_takes l D k ak av _ (va_seli [(mf 0), 0, 0, 0, 0, 0, (mf 6), v_195, v_196, (mf 9), v_197, v_198, (mf 12), (mf 13), (mf 14), (mf 15), (mf 16), 0, (mf 18), 0, 0, 0, (mf 22), 0, 0, (mf 25), (mf 26), 0, 0, (mf 29)]) tf 2 6 _ (show 0 ≤ v_195.toInt ∧ v_195.toInt ≤ 900 from ⟨by omega, by omega⟩) (show 0 ≤ v_196.toInt ∧ v_196.toInt ≤ 900 from ⟨by omega, by omega⟩) (show 0 ≤ (mf 9).toInt ∧ (mf 9).toInt ≤ 900 from ⟨by omega, by omega⟩) (show v_195.toInt ≤ v_196.toInt from by omega) (show v_196.toInt ≤ (mf 9).toInt from by omega) (show v_197.toInt = 13 ∨ v_195.toInt < v_196.toInt from by omega)) (gV mwn_339 mwn_340 mwn_341 mwn_5 mwn_342) hdn_yX8_takes rfl rfl ⟨Nat.le_of_ble_eq_true rfl, Nat.le_of_ble_eq_true rfl⟩ hK hN0 hW0 hS hP hD hS hA [1, 2] [0] rfl rfl (by decide) (by decide) (by decide) rfl rfl rfl rfl hl.1 rfl (Nat.le_of_ble_eq_true rfl) dX8_readLine_128 ⟨Nat.le_of_ble_eq_true rfl, Nat.le_of_ble_eq_true rfl⟩ (fun r_237 u_238 H locs hw hP hD hS => ?_)
              obtain ⟨v_239, v_240, v_241, v_242, v_243, v_244⟩ := u_238
              obtain ⟨hr_237, h_245, h_246, h_247, h_248, h_249, h_250, h_251⟩ := hw
              replace h_245 : 0 ≤ v_239.toInt ∧ v_239.toInt ≤ 900 := h_245
              replace h_246 : 0 ≤ v_240.toInt ∧ v_240.toInt ≤ 900 := h_246
              replace h_247 : v_239.toInt ≤ v_240.toInt := h_247
              replace h_248 : v_240.toInt ≤ (mf 9).toInt := h_248
              replace h_249 : v_241.toInt = 13 ∨ v_239.toInt < v_240.toInt := h_249
              replace h_250 : v_195.toInt ≤ v_239.toInt := h_250
              replace h_251 : v_243.toInt ≠ 0 ∨ (mf 12).toInt = 0 := h_251
              replace hP : va_P D vwCl [((mm 5), .inl (k 0, 409, .inl ef)), ((mm 0), .inr (7, [.int (mf 0), .ref (mm 1), .ref (mm 2), .ref (mm 3), .ref (mm 4), .ref (mm 5), .int (mf 6), .int v_239, .int v_240, .int (mf 9), .int v_241, .int v_242, .int v_243, .int v_244, .int (mf 14), .int (mf 15), .int (mf 16), .ref (mm 6), .int (mf 18), .ref (mm 7), .ref (mm 8), .ref (mm 9), .int (mf 22), .ref (mm 10), .ref (mm 11), .int (mf 25), .int (mf 26), .ref (mm 12), .ref (mm 13), .int (mf 29), .ref (mm 14), .ref (mm 15), .ref (mm 16)])), ((mm 4), .inl (k 0, 900, .inl tf))] H := hP
              replace hD : va_D A [((mm 5), .inl (k 0, 409, .inl ef)), ((mm 0), .inr (7, [.int (mf 0), .ref (mm 1), .ref (mm 2), .ref (mm 3), .ref (mm 4), .ref (mm 5), .int (mf 6), .int v_239, .int v_240, .int (mf 9), .int v_241, .int v_242, .int v_243, .int v_244, .int (mf 14), .int (mf 15), .int (mf 16), .ref (mm 6), .int (mf 18), .ref (mm 7), .ref (mm 8), .ref (mm 9), .int (mf 22), .ref (mm 10), .ref (mm 11), .int (mf 25), .int (mf 26), .ref (mm 12), .ref (mm 13), .int (mf 29), .ref (mm 14), .ref (mm 15), .ref (mm 16)])), ((mm 4), .inl (k 0, 900, .inl tf))] := hD
              replace hr_237 : v_243.toInt ≠ 0 ∨ (2 ≤ r_237.toInt ∧ r_237.toInt ≤ 6) := hr_237
              refine va_iast hx hb hK hP hD hS 0 0 rfl rfl (vp_in_c (by decide)) dX8_readLine_131 (fun H locs hP hD hS => ?_)
              replace hP : va_P D vwCl [((mm 5), .inl (k 0, 409, .inl (upd ef (5 : Int32).toNatClampNeg r_237))), ((mm 0), .inr (7, [.int (mf 0), .ref (mm 1), .ref (mm 2), .ref (mm 3), .ref (mm 4), .ref (mm 5), .int (mf 6), .int v_239, .int v_240, .int (mf 9), .int v_241, .int v_242, .int v_243, .int v_244, .int (mf 14), .int (mf 15), .int (mf 16), .ref (mm 6), .int (mf 18), .ref (mm 7), .ref (mm 8), .ref (mm 9), .int (mf 22), .ref (mm 10), .ref (mm 11), .int (mf 25), .int (mf 26), .ref (mm 12), .ref (mm 13), .int (mf 29), .ref (mm 14), .ref (mm 15), .ref (mm 16)])), ((mm 4), .inl (k 0, 900, .inl tf))] H := hP
              replace hD : va_D A [((mm 5), .inl (k 0, 409, .inl (upd ef (5 : Int32).toNatClampNeg r_237))), ((mm 0), .inr (7, [.int (mf 0), .ref (mm 1), .ref (mm 2), .ref (mm 3), .ref (mm 4), .ref (mm 5), .int (mf 6), .int v_239, .int v_240, .int (mf 9), .int v_241, .int v_242, .int v_243, .int v_244, .int (mf 14), .int (mf 15), .int (mf 16), .ref (mm 6), .int (mf 18), .ref (mm 7), .ref (mm 8), .ref (mm 9), .int (mf 22), .ref (mm 10), .ref (mm 11), .int (mf 25), .int (mf 26), .ref (mm 12), .ref (mm 13), .int (mf 29), .ref (mm 14), .ref (mm 15), .ref (mm 16)])), ((mm 4), .inl (k 0, 900, .inl tf))] := hD
              generalize ef_252 : (upd ef (5 : Int32).toNatClampNeg r_237) = f_252 at hP hD
              have hK_253 : FR v_243 f_252 := by rw [← ef_252]; exact FR_put (show FR v_243 ef from (by first | exact Or.inl (by omega) | exact FR_w w_fr (by omega) | (rcases (show v_243.toInt ≠ 0 ∨ (mf 12).toInt = 0 from by omega) with q | q <;> first | exact Or.inl q | exact FR_w w_fr q))) (by decide) (by decide) (by decide)
              refine lv_goto (tgt := 140) hx hb dX8_readLine_132 (by decide) ?_
              refine lv_aload_n hx hb dX8_readLine_140 rfl (lv_at hl 0 rfl) ?_
              refine lv_bipush (v := 12) hx hb dX8_readLine_141 (by decide) ?_
              refine kV_uis (q0 := 0) (As := [.int 12]) (rest := []) (wr := [((mm 5), .inl (k 0, 409, .inl f_252))]) ⟨hx, hb, hml, hown, hts⟩ (s_M_eats l D k ak av _ (va_seli [(mf 0), 0, 0, 0, 0, 0, (mf 6), v_239, v_240, (mf 9), v_241, v_242, v_243, v_244, (mf 14), (mf 15), (mf 16), 0, (mf 18), 0, 0, 0, (mf 22), 0, 0, (mf 25), (mf 26), 0, 0, (mf 29)]) tf 12 _ (show 0 ≤ v_239.toInt ∧ v_239.toInt ≤ 900 from ⟨by omega, by omega⟩) (show 0 ≤ v_240.toInt ∧ v_240.toInt ≤ 900 from ⟨by omega, by omega⟩) (show 0 ≤ (mf 9).toInt ∧ (mf 9).toInt ≤ 900 from ⟨by omega, by omega⟩) (show v_239.toInt ≤ v_240.toInt from by omega) (show v_240.toInt ≤ (mf 9).toInt from by omega) (show v_241.toInt = 13 ∨ v_239.toInt < v_240.toInt from by omega)) (gV mwn_343 mwn_344 mwn_345 mwn_5 mwn_346) hdn_yX8_eats rfl rfl ⟨Nat.le_of_ble_eq_true rfl, Nat.le_of_ble_eq_true rfl⟩ hK hN0 hW0 hS hP hD hS hA [1, 2] [0] rfl rfl (by decide) (by decide) (by decide) rfl rfl rfl rfl hl.1 rfl (Nat.le_of_ble_eq_true rfl) dX8_readLine_143 ⟨Nat.le_of_ble_eq_true rfl, Nat.le_of_ble_eq_true rfl⟩ (fun r_254 u_255 H locs hw hP hD hS => ?_)
              obtain ⟨v_256, v_257, v_258, v_259⟩ := u_255
              obtain ⟨hr_254, h_260, h_261, h_262, h_263, h_264, h_265⟩ := hw
              replace h_260 : 0 ≤ v_256.toInt ∧ v_256.toInt ≤ 900 := h_260
              replace h_261 : 0 ≤ v_257.toInt ∧ v_257.toInt ≤ 900 := h_261
              replace h_262 : v_256.toInt ≤ v_257.toInt := h_262
              replace h_263 : v_257.toInt ≤ (mf 9).toInt := h_263
              replace h_264 : v_258.toInt = 13 ∨ v_256.toInt < v_257.toInt := h_264
              replace h_265 : v_239.toInt ≤ v_256.toInt := h_265
              replace hP : va_P D vwCl [((mm 5), .inl (k 0, 409, .inl f_252)), ((mm 0), .inr (7, [.int (mf 0), .ref (mm 1), .ref (mm 2), .ref (mm 3), .ref (mm 4), .ref (mm 5), .int (mf 6), .int v_256, .int v_257, .int (mf 9), .int v_258, .int v_259, .int v_243, .int v_244, .int (mf 14), .int (mf 15), .int (mf 16), .ref (mm 6), .int (mf 18), .ref (mm 7), .ref (mm 8), .ref (mm 9), .int (mf 22), .ref (mm 10), .ref (mm 11), .int (mf 25), .int (mf 26), .ref (mm 12), .ref (mm 13), .int (mf 29), .ref (mm 14), .ref (mm 15), .ref (mm 16)])), ((mm 4), .inl (k 0, 900, .inl tf))] H := hP
              replace hD : va_D A [((mm 5), .inl (k 0, 409, .inl f_252)), ((mm 0), .inr (7, [.int (mf 0), .ref (mm 1), .ref (mm 2), .ref (mm 3), .ref (mm 4), .ref (mm 5), .int (mf 6), .int v_256, .int v_257, .int (mf 9), .int v_258, .int v_259, .int v_243, .int v_244, .int (mf 14), .int (mf 15), .int (mf 16), .ref (mm 6), .int (mf 18), .ref (mm 7), .ref (mm 8), .ref (mm 9), .int (mf 22), .ref (mm 10), .ref (mm 11), .int (mf 25), .int (mf 26), .ref (mm 12), .ref (mm 13), .int (mf 29), .ref (mm 14), .ref (mm 15), .ref (mm 16)])), ((mm 4), .inl (k 0, 900, .inl tf))] := hD
              replace hr_254 : r_254.toInt = 0 ∨ (r_254.toInt = 1 ∧ v_243.toInt = 0 ∧ v_241.toInt = 12 ∧ v_240.toInt ≤ v_256.toInt) := hr_254
              refine lv_if_ne (tgt := 154) hx hb dX8_readLine_146 (by decide) (fun c_266 => ?_) (fun c_266 => ?_)
              · have c_266 : r_254.toInt ≠ 0 := ti_ne c_266
                have qc_266 : r_254 = 1 := ti_of (show r_254.toInt = 1 from by omega)
                refine lv_aload_n hx hb dX8_readLine_154 rfl (lv_at hl 0 rfl) ?_
                refine va_get (D := D) (ci := 7) (v := .ref (mm 5)) (C := RX8) (T := TX8) (N := 33) hx hb hts inlX8 hown hK hP 1 rfl rfl 5 (by decide) (hts _ mwn_95) (fun _ h9 => h9) rfl dX8_readLine_155 ?_
                refine lv_bipush (v := 7) hx hb dX8_readLine_158 (by decide) ?_
                refine lv_dup2_11 hx hb dX8_readLine_160 rfl rfl ?_
                refine va_iald hx hb hK hP 0 0 rfl rfl (vp_in_c (by decide)) dX8_readLine_161 ?_
                refine lv_topi (fun z_267 ez_267 => ?_)
                refine lv_iconst (v := 1) hx hb dX8_readLine_162 (by decide) ?_
                refine lv_iadd hx hb dX8_readLine_163 ?_
                refine lv_topi (fun z_268 ez_268 => ?_)
                refine va_iast hx hb hK hP hD hS 0 0 rfl rfl (vp_in_c (by decide)) dX8_readLine_164 (fun H locs hP hD hS => ?_)
                replace hP : va_P D vwCl [((mm 5), .inl (k 0, 409, .inl (upd f_252 (7 : Int32).toNatClampNeg z_268))), ((mm 0), .inr (7, [.int (mf 0), .ref (mm 1), .ref (mm 2), .ref (mm 3), .ref (mm 4), .ref (mm 5), .int (mf 6), .int v_256, .int v_257, .int (mf 9), .int v_258, .int v_259, .int v_243, .int v_244, .int (mf 14), .int (mf 15), .int (mf 16), .ref (mm 6), .int (mf 18), .ref (mm 7), .ref (mm 8), .ref (mm 9), .int (mf 22), .ref (mm 10), .ref (mm 11), .int (mf 25), .int (mf 26), .ref (mm 12), .ref (mm 13), .int (mf 29), .ref (mm 14), .ref (mm 15), .ref (mm 16)])), ((mm 4), .inl (k 0, 900, .inl tf))] H := hP
                replace hD : va_D A [((mm 5), .inl (k 0, 409, .inl (upd f_252 (7 : Int32).toNatClampNeg z_268))), ((mm 0), .inr (7, [.int (mf 0), .ref (mm 1), .ref (mm 2), .ref (mm 3), .ref (mm 4), .ref (mm 5), .int (mf 6), .int v_256, .int v_257, .int (mf 9), .int v_258, .int v_259, .int v_243, .int v_244, .int (mf 14), .int (mf 15), .int (mf 16), .ref (mm 6), .int (mf 18), .ref (mm 7), .ref (mm 8), .ref (mm 9), .int (mf 22), .ref (mm 10), .ref (mm 11), .int (mf 25), .int (mf 26), .ref (mm 12), .ref (mm 13), .int (mf 29), .ref (mm 14), .ref (mm 15), .ref (mm 16)])), ((mm 4), .inl (k 0, 900, .inl tf))] := hD
                generalize ef_269 : (upd f_252 (7 : Int32).toNatClampNeg z_268) = f_269 at hP hD
                have hK_270 : FR v_243 f_269 := by rw [← ef_269]; exact FR_put (show FR v_243 f_252 from hK_253) (by decide) (by decide) (by decide)
                exact W.vret hx hb hr (fun t ht hW => ⟨⟨(v_256, v_257, v_258, v_259, v_243, v_244, f_269), rfl, ⟨(show 0 ≤ v_256.toInt ∧ v_256.toInt ≤ 900 from ⟨by omega, by omega⟩), (show 0 ≤ v_257.toInt ∧ v_257.toInt ≤ 900 from ⟨by omega, by omega⟩), (show v_256.toInt ≤ v_257.toInt from by omega), (show v_257.toInt ≤ (mf 9).toInt from by omega), (show v_258.toInt = 13 ∨ v_256.toInt < v_257.toInt from by omega), (show v_243.toInt ≠ 0 ∨ (mf 7).toInt < v_256.toInt from by omega), (show FR v_243 f_269 from hK_270)⟩, by rw [ht]; exact hP.sub [1, 2, 0] rfl, hD.sub [1, 2, 0] (by decide) rfl⟩, hS.F ht⟩) hS.2.2 dX8_readLine_165
              · have c_266 : r_254.toInt = 0 := ti_eq c_266
                have qc_266 : r_254 = 0 := ti_of (show r_254.toInt = 0 from by omega)
                refine lv_aload_n hx hb dX8_readLine_149 rfl (lv_at hl 0 rfl) ?_
                refine lv_iconst (v := 2) hx hb dX8_readLine_150 (by decide) ?_
                refine kV_uv (q0 := 0) (As := [.int 2]) (rest := []) (wr := [((mm 5), .inl (k 0, 409, .inl f_252)), ((mm 4), .inl (k 0, 900, .inl tf))]) ⟨hx, hb, hml, hown, hts⟩ (s_M_fails l D k _ (va_seli [(mf 0), 0, 0, 0, 0, 0, (mf 6), v_256, v_257, (mf 9), v_258, v_259, v_243, v_244, (mf 14), (mf 15), (mf 16), 0, (mf 18), 0, 0, 0, (mf 22), 0, 0, (mf 25), (mf 26), 0, 0, (mf 29)]) 2 _ (show 1 ≤ (2 : Int32).toInt ∧ (2 : Int32).toInt ≤ 4 from ⟨by decide, by decide⟩)) (gV mwn_331 mwn_332 mwn_333 mwn_5 mwn_334) hdn_yX8_fails rfl rfl ⟨Nat.le_of_ble_eq_true rfl, Nat.le_of_ble_eq_true rfl⟩ hK hN0 hP hD hS hA [1] [0, 2] rfl rfl (by decide) (by decide) (by decide) rfl rfl rfl rfl hl.1 rfl (Nat.le_of_ble_eq_true rfl) dX8_readLine_151 ⟨Nat.le_of_ble_eq_true rfl, Nat.le_of_ble_eq_true rfl⟩ (fun u_272 H locs hw hP hD hS => ?_)
                obtain ⟨v_273, v_274⟩ := u_272
                have h_275 := hw
                replace h_275 : v_273.toInt ≠ 0 := h_275
                replace hP : va_P D vwCl [((mm 5), .inl (k 0, 409, .inl f_252)), ((mm 4), .inl (k 0, 900, .inl tf)), ((mm 0), .inr (7, [.int (mf 0), .ref (mm 1), .ref (mm 2), .ref (mm 3), .ref (mm 4), .ref (mm 5), .int (mf 6), .int v_256, .int v_257, .int (mf 9), .int v_258, .int v_259, .int v_273, .int v_274, .int (mf 14), .int (mf 15), .int (mf 16), .ref (mm 6), .int (mf 18), .ref (mm 7), .ref (mm 8), .ref (mm 9), .int (mf 22), .ref (mm 10), .ref (mm 11), .int (mf 25), .int (mf 26), .ref (mm 12), .ref (mm 13), .int (mf 29), .ref (mm 14), .ref (mm 15), .ref (mm 16)]))] H := hP
                replace hD : va_D A [((mm 5), .inl (k 0, 409, .inl f_252)), ((mm 4), .inl (k 0, 900, .inl tf)), ((mm 0), .inr (7, [.int (mf 0), .ref (mm 1), .ref (mm 2), .ref (mm 3), .ref (mm 4), .ref (mm 5), .int (mf 6), .int v_256, .int v_257, .int (mf 9), .int v_258, .int v_259, .int v_273, .int v_274, .int (mf 14), .int (mf 15), .int (mf 16), .ref (mm 6), .int (mf 18), .ref (mm 7), .ref (mm 8), .ref (mm 9), .int (mf 22), .ref (mm 10), .ref (mm 11), .int (mf 25), .int (mf 26), .ref (mm 12), .ref (mm 13), .int (mf 29), .ref (mm 14), .ref (mm 15), .ref (mm 16)]))] := hD
                refine lv_aload_n hx hb dX8_readLine_154 rfl (lv_at hl 0 rfl) ?_
                refine va_get (D := D) (ci := 7) (v := .ref (mm 5)) (C := RX8) (T := TX8) (N := 33) hx hb hts inlX8 hown hK hP 2 rfl rfl 5 (by decide) (hts _ mwn_95) (fun _ h9 => h9) rfl dX8_readLine_155 ?_
                refine lv_bipush (v := 7) hx hb dX8_readLine_158 (by decide) ?_
                refine lv_dup2_11 hx hb dX8_readLine_160 rfl rfl ?_
                refine va_iald hx hb hK hP 0 0 rfl rfl (vp_in_c (by decide)) dX8_readLine_161 ?_
                refine lv_topi (fun z_276 ez_276 => ?_)
                refine lv_iconst (v := 1) hx hb dX8_readLine_162 (by decide) ?_
                refine lv_iadd hx hb dX8_readLine_163 ?_
                refine lv_topi (fun z_277 ez_277 => ?_)
                refine va_iast hx hb hK hP hD hS 0 0 rfl rfl (vp_in_c (by decide)) dX8_readLine_164 (fun H locs hP hD hS => ?_)
                replace hP : va_P D vwCl [((mm 5), .inl (k 0, 409, .inl (upd f_252 (7 : Int32).toNatClampNeg z_277))), ((mm 4), .inl (k 0, 900, .inl tf)), ((mm 0), .inr (7, [.int (mf 0), .ref (mm 1), .ref (mm 2), .ref (mm 3), .ref (mm 4), .ref (mm 5), .int (mf 6), .int v_256, .int v_257, .int (mf 9), .int v_258, .int v_259, .int v_273, .int v_274, .int (mf 14), .int (mf 15), .int (mf 16), .ref (mm 6), .int (mf 18), .ref (mm 7), .ref (mm 8), .ref (mm 9), .int (mf 22), .ref (mm 10), .ref (mm 11), .int (mf 25), .int (mf 26), .ref (mm 12), .ref (mm 13), .int (mf 29), .ref (mm 14), .ref (mm 15), .ref (mm 16)]))] H := hP
                replace hD : va_D A [((mm 5), .inl (k 0, 409, .inl (upd f_252 (7 : Int32).toNatClampNeg z_277))), ((mm 4), .inl (k 0, 900, .inl tf)), ((mm 0), .inr (7, [.int (mf 0), .ref (mm 1), .ref (mm 2), .ref (mm 3), .ref (mm 4), .ref (mm 5), .int (mf 6), .int v_256, .int v_257, .int (mf 9), .int v_258, .int v_259, .int v_273, .int v_274, .int (mf 14), .int (mf 15), .int (mf 16), .ref (mm 6), .int (mf 18), .ref (mm 7), .ref (mm 8), .ref (mm 9), .int (mf 22), .ref (mm 10), .ref (mm 11), .int (mf 25), .int (mf 26), .ref (mm 12), .ref (mm 13), .int (mf 29), .ref (mm 14), .ref (mm 15), .ref (mm 16)]))] := hD
                generalize ef_278 : (upd f_252 (7 : Int32).toNatClampNeg z_277) = f_278 at hP hD
                have hK_279 : FR v_273 f_278 := by rw [← ef_278]; exact FR_put (show FR v_273 f_252 from (by first | exact Or.inl (by omega) | exact FR_w hK_253 (by omega) | (rcases (show v_273.toInt ≠ 0 ∨ v_243.toInt = 0 from by omega) with q | q <;> first | exact Or.inl q | exact FR_w hK_253 q))) (by decide) (by decide) (by decide)
                exact W.vret hx hb hr (fun t ht hW => ⟨⟨(v_256, v_257, v_258, v_259, v_273, v_274, f_278), rfl, ⟨(show 0 ≤ v_256.toInt ∧ v_256.toInt ≤ 900 from ⟨by omega, by omega⟩), (show 0 ≤ v_257.toInt ∧ v_257.toInt ≤ 900 from ⟨by omega, by omega⟩), (show v_256.toInt ≤ v_257.toInt from by omega), (show v_257.toInt ≤ (mf 9).toInt from by omega), (show v_258.toInt = 13 ∨ v_256.toInt < v_257.toInt from by omega), (show v_273.toInt ≠ 0 ∨ (mf 7).toInt < v_256.toInt from by omega), (show FR v_273 f_278 from hK_279)⟩, by rw [ht]; exact hP.sub [2, 1, 0] rfl, hD.sub [2, 1, 0] (by decide) rfl⟩, hS.F ht⟩) hS.2.2 dX8_readLine_165
          · have c_192 : r_180.toInt ≠ 0 := ti_ne c_192
            have qc_192 : r_180 = 1 := ti_of (show r_180.toInt = 1 from by omega)
            refine lv_aload_n hx hb dX8_readLine_81 rfl (lv_at hl 0 rfl) ?_
            refine va_get (D := D) (ci := 7) (v := .ref (mm 5)) (C := RX8) (T := TX8) (N := 33) hx hb hts inlX8 hown hK hP 1 rfl rfl 5 (by decide) (hts _ mwn_95) (fun _ h9 => h9) rfl dX8_readLine_82 ?_
            refine lv_iconst (v := 3) hx hb dX8_readLine_85 (by decide) ?_
            refine lv_aload_n hx hb dX8_readLine_86 rfl (lv_at hl 0 rfl) ?_
            refine lv_iconst (v := 1) hx hb dX8_readLine_87 (by decide) ?_
            refine lv_bipush (v := 30) hx hb dX8_readLine_88 (by decide) ?_
            refine kV_uis (q0 := 0) (As := [.int 1, .int 30]) (rest := [.int 3, .ref (mm 5)]) (wr := [((mm 5), .inl (k 0, 409, .inl ef))]) ⟨hx, hb, hml, hown, hts⟩ (s_M_takes l D k ak av _ (va_seli [(mf 0), 0, 0, 0, 0, 0, (mf 6), v_182, v_183, (mf 9), v_184, v_185, (mf 12), (mf 13), (mf 14), (mf 15), (mf 16), 0, (mf 18), 0, 0, 0, (mf 22), 0, 0, (mf 25), (mf 26), 0, 0, (mf 29)]) tf 1 30 _ (show 0 ≤ v_182.toInt ∧ v_182.toInt ≤ 900 from ⟨by omega, by omega⟩) (show 0 ≤ v_183.toInt ∧ v_183.toInt ≤ 900 from ⟨by omega, by omega⟩) (show 0 ≤ (mf 9).toInt ∧ (mf 9).toInt ≤ 900 from ⟨by omega, by omega⟩) (show v_182.toInt ≤ v_183.toInt from by omega) (show v_183.toInt ≤ (mf 9).toInt from by omega) (show v_184.toInt = 13 ∨ v_182.toInt < v_183.toInt from by omega)) (gV mwn_339 mwn_340 mwn_341 mwn_5 mwn_342) hdn_yX8_takes rfl rfl ⟨Nat.le_of_ble_eq_true rfl, Nat.le_of_ble_eq_true rfl⟩ hK hN0 hW0 hS hP hD hS hA [1, 2] [0] rfl rfl (by decide) (by decide) (by decide) rfl rfl rfl rfl hl.1 rfl (Nat.le_of_ble_eq_true rfl) dX8_readLine_90 ⟨Nat.le_of_ble_eq_true rfl, Nat.le_of_ble_eq_true rfl⟩ (fun r_280 u_281 H locs hw hP hD hS => ?_)
            obtain ⟨v_282, v_283, v_284, v_285, v_286, v_287⟩ := u_281
            obtain ⟨hr_280, h_288, h_289, h_290, h_291, h_292, h_293, h_294⟩ := hw
            replace h_288 : 0 ≤ v_282.toInt ∧ v_282.toInt ≤ 900 := h_288
            replace h_289 : 0 ≤ v_283.toInt ∧ v_283.toInt ≤ 900 := h_289
            replace h_290 : v_282.toInt ≤ v_283.toInt := h_290
            replace h_291 : v_283.toInt ≤ (mf 9).toInt := h_291
            replace h_292 : v_284.toInt = 13 ∨ v_282.toInt < v_283.toInt := h_292
            replace h_293 : v_182.toInt ≤ v_282.toInt := h_293
            replace h_294 : v_286.toInt ≠ 0 ∨ (mf 12).toInt = 0 := h_294
            replace hP : va_P D vwCl [((mm 5), .inl (k 0, 409, .inl ef)), ((mm 0), .inr (7, [.int (mf 0), .ref (mm 1), .ref (mm 2), .ref (mm 3), .ref (mm 4), .ref (mm 5), .int (mf 6), .int v_282, .int v_283, .int (mf 9), .int v_284, .int v_285, .int v_286, .int v_287, .int (mf 14), .int (mf 15), .int (mf 16), .ref (mm 6), .int (mf 18), .ref (mm 7), .ref (mm 8), .ref (mm 9), .int (mf 22), .ref (mm 10), .ref (mm 11), .int (mf 25), .int (mf 26), .ref (mm 12), .ref (mm 13), .int (mf 29), .ref (mm 14), .ref (mm 15), .ref (mm 16)])), ((mm 4), .inl (k 0, 900, .inl tf))] H := hP
            replace hD : va_D A [((mm 5), .inl (k 0, 409, .inl ef)), ((mm 0), .inr (7, [.int (mf 0), .ref (mm 1), .ref (mm 2), .ref (mm 3), .ref (mm 4), .ref (mm 5), .int (mf 6), .int v_282, .int v_283, .int (mf 9), .int v_284, .int v_285, .int v_286, .int v_287, .int (mf 14), .int (mf 15), .int (mf 16), .ref (mm 6), .int (mf 18), .ref (mm 7), .ref (mm 8), .ref (mm 9), .int (mf 22), .ref (mm 10), .ref (mm 11), .int (mf 25), .int (mf 26), .ref (mm 12), .ref (mm 13), .int (mf 29), .ref (mm 14), .ref (mm 15), .ref (mm 16)])), ((mm 4), .inl (k 0, 900, .inl tf))] := hD
            replace hr_280 : v_286.toInt ≠ 0 ∨ (1 ≤ r_280.toInt ∧ r_280.toInt ≤ 30) := hr_280
            refine va_iast hx hb hK hP hD hS 0 0 rfl rfl (vp_in_c (by decide)) dX8_readLine_93 (fun H locs hP hD hS => ?_)
            replace hP : va_P D vwCl [((mm 5), .inl (k 0, 409, .inl (upd ef (3 : Int32).toNatClampNeg r_280))), ((mm 0), .inr (7, [.int (mf 0), .ref (mm 1), .ref (mm 2), .ref (mm 3), .ref (mm 4), .ref (mm 5), .int (mf 6), .int v_282, .int v_283, .int (mf 9), .int v_284, .int v_285, .int v_286, .int v_287, .int (mf 14), .int (mf 15), .int (mf 16), .ref (mm 6), .int (mf 18), .ref (mm 7), .ref (mm 8), .ref (mm 9), .int (mf 22), .ref (mm 10), .ref (mm 11), .int (mf 25), .int (mf 26), .ref (mm 12), .ref (mm 13), .int (mf 29), .ref (mm 14), .ref (mm 15), .ref (mm 16)])), ((mm 4), .inl (k 0, 900, .inl tf))] H := hP
            replace hD : va_D A [((mm 5), .inl (k 0, 409, .inl (upd ef (3 : Int32).toNatClampNeg r_280))), ((mm 0), .inr (7, [.int (mf 0), .ref (mm 1), .ref (mm 2), .ref (mm 3), .ref (mm 4), .ref (mm 5), .int (mf 6), .int v_282, .int v_283, .int (mf 9), .int v_284, .int v_285, .int v_286, .int v_287, .int (mf 14), .int (mf 15), .int (mf 16), .ref (mm 6), .int (mf 18), .ref (mm 7), .ref (mm 8), .ref (mm 9), .int (mf 22), .ref (mm 10), .ref (mm 11), .int (mf 25), .int (mf 26), .ref (mm 12), .ref (mm 13), .int (mf 29), .ref (mm 14), .ref (mm 15), .ref (mm 16)])), ((mm 4), .inl (k 0, 900, .inl tf))] := hD
            generalize ef_295 : (upd ef (3 : Int32).toNatClampNeg r_280) = f_295 at hP hD
            have hK_296 : FR v_286 f_295 := by rw [← ef_295]; exact FR_put (show FR v_286 ef from (by first | exact Or.inl (by omega) | exact FR_w w_fr (by omega) | (rcases (show v_286.toInt ≠ 0 ∨ (mf 12).toInt = 0 from by omega) with q | q <;> first | exact Or.inl q | exact FR_w w_fr q))) (by decide) (by decide) (by decide)
            refine lv_aload_n hx hb dX8_readLine_94 rfl (lv_at hl 0 rfl) ?_
            refine va_get (D := D) (ci := 7) (v := .ref (mm 5)) (C := RX8) (T := TX8) (N := 33) hx hb hts inlX8 hown hK hP 1 rfl rfl 5 (by decide) (hts _ mwn_95) (fun _ h9 => h9) rfl dX8_readLine_95 ?_
            refine lv_iconst (v := 4) hx hb dX8_readLine_98 (by decide) ?_
            refine lv_aload_n hx hb dX8_readLine_99 rfl (lv_at hl 0 rfl) ?_
            refine lv_iconst (v := 1) hx hb dX8_readLine_100 (by decide) ?_
            refine lv_bipush (v := 30) hx hb dX8_readLine_101 (by decide) ?_
            refine kV_uis (q0 := 0) (As := [.int 1, .int 30]) (rest := [.int 4, .ref (mm 5)]) (wr := [((mm 5), .inl (k 0, 409, .inl f_295))]) ⟨hx, hb, hml, hown, hts⟩ (s_M_takes l D k ak av _ (va_seli [(mf 0), 0, 0, 0, 0, 0, (mf 6), v_282, v_283, (mf 9), v_284, v_285, v_286, v_287, (mf 14), (mf 15), (mf 16), 0, (mf 18), 0, 0, 0, (mf 22), 0, 0, (mf 25), (mf 26), 0, 0, (mf 29)]) tf 1 30 _ (show 0 ≤ v_282.toInt ∧ v_282.toInt ≤ 900 from ⟨by omega, by omega⟩) (show 0 ≤ v_283.toInt ∧ v_283.toInt ≤ 900 from ⟨by omega, by omega⟩) (show 0 ≤ (mf 9).toInt ∧ (mf 9).toInt ≤ 900 from ⟨by omega, by omega⟩) (show v_282.toInt ≤ v_283.toInt from by omega) (show v_283.toInt ≤ (mf 9).toInt from by omega) (show v_284.toInt = 13 ∨ v_282.toInt < v_283.toInt from by omega)) (gV mwn_339 mwn_340 mwn_341 mwn_5 mwn_342) hdn_yX8_takes rfl rfl ⟨Nat.le_of_ble_eq_true rfl, Nat.le_of_ble_eq_true rfl⟩ hK hN0 hW0 hS hP hD hS hA [1, 2] [0] rfl rfl (by decide) (by decide) (by decide) rfl rfl rfl rfl hl.1 rfl (Nat.le_of_ble_eq_true rfl) dX8_readLine_103 ⟨Nat.le_of_ble_eq_true rfl, Nat.le_of_ble_eq_true rfl⟩ (fun r_297 u_298 H locs hw hP hD hS => ?_)
            obtain ⟨v_299, v_300, v_301, v_302, v_303, v_304⟩ := u_298
            obtain ⟨hr_297, h_305, h_306, h_307, h_308, h_309, h_310, h_311⟩ := hw
            replace h_305 : 0 ≤ v_299.toInt ∧ v_299.toInt ≤ 900 := h_305
            replace h_306 : 0 ≤ v_300.toInt ∧ v_300.toInt ≤ 900 := h_306
            replace h_307 : v_299.toInt ≤ v_300.toInt := h_307
            replace h_308 : v_300.toInt ≤ (mf 9).toInt := h_308
            replace h_309 : v_301.toInt = 13 ∨ v_299.toInt < v_300.toInt := h_309
            replace h_310 : v_282.toInt ≤ v_299.toInt := h_310
            replace h_311 : v_303.toInt ≠ 0 ∨ v_286.toInt = 0 := h_311
            replace hP : va_P D vwCl [((mm 5), .inl (k 0, 409, .inl f_295)), ((mm 0), .inr (7, [.int (mf 0), .ref (mm 1), .ref (mm 2), .ref (mm 3), .ref (mm 4), .ref (mm 5), .int (mf 6), .int v_299, .int v_300, .int (mf 9), .int v_301, .int v_302, .int v_303, .int v_304, .int (mf 14), .int (mf 15), .int (mf 16), .ref (mm 6), .int (mf 18), .ref (mm 7), .ref (mm 8), .ref (mm 9), .int (mf 22), .ref (mm 10), .ref (mm 11), .int (mf 25), .int (mf 26), .ref (mm 12), .ref (mm 13), .int (mf 29), .ref (mm 14), .ref (mm 15), .ref (mm 16)])), ((mm 4), .inl (k 0, 900, .inl tf))] H := hP
            replace hD : va_D A [((mm 5), .inl (k 0, 409, .inl f_295)), ((mm 0), .inr (7, [.int (mf 0), .ref (mm 1), .ref (mm 2), .ref (mm 3), .ref (mm 4), .ref (mm 5), .int (mf 6), .int v_299, .int v_300, .int (mf 9), .int v_301, .int v_302, .int v_303, .int v_304, .int (mf 14), .int (mf 15), .int (mf 16), .ref (mm 6), .int (mf 18), .ref (mm 7), .ref (mm 8), .ref (mm 9), .int (mf 22), .ref (mm 10), .ref (mm 11), .int (mf 25), .int (mf 26), .ref (mm 12), .ref (mm 13), .int (mf 29), .ref (mm 14), .ref (mm 15), .ref (mm 16)])), ((mm 4), .inl (k 0, 900, .inl tf))] := hD
            replace hr_297 : v_303.toInt ≠ 0 ∨ (1 ≤ r_297.toInt ∧ r_297.toInt ≤ 30) := hr_297
            refine va_iast hx hb hK hP hD hS 0 0 rfl rfl (vp_in_c (by decide)) dX8_readLine_106 (fun H locs hP hD hS => ?_)
            replace hP : va_P D vwCl [((mm 5), .inl (k 0, 409, .inl (upd f_295 (4 : Int32).toNatClampNeg r_297))), ((mm 0), .inr (7, [.int (mf 0), .ref (mm 1), .ref (mm 2), .ref (mm 3), .ref (mm 4), .ref (mm 5), .int (mf 6), .int v_299, .int v_300, .int (mf 9), .int v_301, .int v_302, .int v_303, .int v_304, .int (mf 14), .int (mf 15), .int (mf 16), .ref (mm 6), .int (mf 18), .ref (mm 7), .ref (mm 8), .ref (mm 9), .int (mf 22), .ref (mm 10), .ref (mm 11), .int (mf 25), .int (mf 26), .ref (mm 12), .ref (mm 13), .int (mf 29), .ref (mm 14), .ref (mm 15), .ref (mm 16)])), ((mm 4), .inl (k 0, 900, .inl tf))] H := hP
            replace hD : va_D A [((mm 5), .inl (k 0, 409, .inl (upd f_295 (4 : Int32).toNatClampNeg r_297))), ((mm 0), .inr (7, [.int (mf 0), .ref (mm 1), .ref (mm 2), .ref (mm 3), .ref (mm 4), .ref (mm 5), .int (mf 6), .int v_299, .int v_300, .int (mf 9), .int v_301, .int v_302, .int v_303, .int v_304, .int (mf 14), .int (mf 15), .int (mf 16), .ref (mm 6), .int (mf 18), .ref (mm 7), .ref (mm 8), .ref (mm 9), .int (mf 22), .ref (mm 10), .ref (mm 11), .int (mf 25), .int (mf 26), .ref (mm 12), .ref (mm 13), .int (mf 29), .ref (mm 14), .ref (mm 15), .ref (mm 16)])), ((mm 4), .inl (k 0, 900, .inl tf))] := hD
            generalize ef_312 : (upd f_295 (4 : Int32).toNatClampNeg r_297) = f_312 at hP hD
            have hK_313 : FR v_303 f_312 := by rw [← ef_312]; exact FR_put (show FR v_303 f_295 from (by first | exact Or.inl (by omega) | exact FR_w hK_296 (by omega) | (rcases (show v_303.toInt ≠ 0 ∨ v_286.toInt = 0 from by omega) with q | q <;> first | exact Or.inl q | exact FR_w hK_296 q))) (by decide) (by decide) (by decide)
            refine lv_goto (tgt := 140) hx hb dX8_readLine_107 (by decide) ?_
            refine lv_aload_n hx hb dX8_readLine_140 rfl (lv_at hl 0 rfl) ?_
            refine lv_bipush (v := 12) hx hb dX8_readLine_141 (by decide) ?_
            refine kV_uis (q0 := 0) (As := [.int 12]) (rest := []) (wr := [((mm 5), .inl (k 0, 409, .inl f_312))]) ⟨hx, hb, hml, hown, hts⟩ (s_M_eats l D k ak av _ (va_seli [(mf 0), 0, 0, 0, 0, 0, (mf 6), v_299, v_300, (mf 9), v_301, v_302, v_303, v_304, (mf 14), (mf 15), (mf 16), 0, (mf 18), 0, 0, 0, (mf 22), 0, 0, (mf 25), (mf 26), 0, 0, (mf 29)]) tf 12 _ (show 0 ≤ v_299.toInt ∧ v_299.toInt ≤ 900 from ⟨by omega, by omega⟩) (show 0 ≤ v_300.toInt ∧ v_300.toInt ≤ 900 from ⟨by omega, by omega⟩) (show 0 ≤ (mf 9).toInt ∧ (mf 9).toInt ≤ 900 from ⟨by omega, by omega⟩) (show v_299.toInt ≤ v_300.toInt from by omega) (show v_300.toInt ≤ (mf 9).toInt from by omega) (show v_301.toInt = 13 ∨ v_299.toInt < v_300.toInt from by omega)) (gV mwn_343 mwn_344 mwn_345 mwn_5 mwn_346) hdn_yX8_eats rfl rfl ⟨Nat.le_of_ble_eq_true rfl, Nat.le_of_ble_eq_true rfl⟩ hK hN0 hW0 hS hP hD hS hA [1, 2] [0] rfl rfl (by decide) (by decide) (by decide) rfl rfl rfl rfl hl.1 rfl (Nat.le_of_ble_eq_true rfl) dX8_readLine_143 ⟨Nat.le_of_ble_eq_true rfl, Nat.le_of_ble_eq_true rfl⟩ (fun r_314 u_315 H locs hw hP hD hS => ?_)
            obtain ⟨v_316, v_317, v_318, v_319⟩ := u_315
            obtain ⟨hr_314, h_320, h_321, h_322, h_323, h_324, h_325⟩ := hw
            replace h_320 : 0 ≤ v_316.toInt ∧ v_316.toInt ≤ 900 := h_320
            replace h_321 : 0 ≤ v_317.toInt ∧ v_317.toInt ≤ 900 := h_321
            replace h_322 : v_316.toInt ≤ v_317.toInt := h_322
            replace h_323 : v_317.toInt ≤ (mf 9).toInt := h_323
            replace h_324 : v_318.toInt = 13 ∨ v_316.toInt < v_317.toInt := h_324
            replace h_325 : v_299.toInt ≤ v_316.toInt := h_325
            replace hP : va_P D vwCl [((mm 5), .inl (k 0, 409, .inl f_312)), ((mm 0), .inr (7, [.int (mf 0), .ref (mm 1), .ref (mm 2), .ref (mm 3), .ref (mm 4), .ref (mm 5), .int (mf 6), .int v_316, .int v_317, .int (mf 9), .int v_318, .int v_319, .int v_303, .int v_304, .int (mf 14), .int (mf 15), .int (mf 16), .ref (mm 6), .int (mf 18), .ref (mm 7), .ref (mm 8), .ref (mm 9), .int (mf 22), .ref (mm 10), .ref (mm 11), .int (mf 25), .int (mf 26), .ref (mm 12), .ref (mm 13), .int (mf 29), .ref (mm 14), .ref (mm 15), .ref (mm 16)])), ((mm 4), .inl (k 0, 900, .inl tf))] H := hP
            replace hD : va_D A [((mm 5), .inl (k 0, 409, .inl f_312)), ((mm 0), .inr (7, [.int (mf 0), .ref (mm 1), .ref (mm 2), .ref (mm 3), .ref (mm 4), .ref (mm 5), .int (mf 6), .int v_316, .int v_317, .int (mf 9), .int v_318, .int v_319, .int v_303, .int v_304, .int (mf 14), .int (mf 15), .int (mf 16), .ref (mm 6), .int (mf 18), .ref (mm 7), .ref (mm 8), .ref (mm 9), .int (mf 22), .ref (mm 10), .ref (mm 11), .int (mf 25), .int (mf 26), .ref (mm 12), .ref (mm 13), .int (mf 29), .ref (mm 14), .ref (mm 15), .ref (mm 16)])), ((mm 4), .inl (k 0, 900, .inl tf))] := hD
            replace hr_314 : r_314.toInt = 0 ∨ (r_314.toInt = 1 ∧ v_303.toInt = 0 ∧ v_301.toInt = 12 ∧ v_300.toInt ≤ v_316.toInt) := hr_314
            refine lv_if_ne (tgt := 154) hx hb dX8_readLine_146 (by decide) (fun c_326 => ?_) (fun c_326 => ?_)
            · have c_326 : r_314.toInt ≠ 0 := ti_ne c_326
              have qc_326 : r_314 = 1 := ti_of (show r_314.toInt = 1 from by omega)
              refine lv_aload_n hx hb dX8_readLine_154 rfl (lv_at hl 0 rfl) ?_
              refine va_get (D := D) (ci := 7) (v := .ref (mm 5)) (C := RX8) (T := TX8) (N := 33) hx hb hts inlX8 hown hK hP 1 rfl rfl 5 (by decide) (hts _ mwn_95) (fun _ h9 => h9) rfl dX8_readLine_155 ?_
              refine lv_bipush (v := 7) hx hb dX8_readLine_158 (by decide) ?_
              refine lv_dup2_11 hx hb dX8_readLine_160 rfl rfl ?_
              refine va_iald hx hb hK hP 0 0 rfl rfl (vp_in_c (by decide)) dX8_readLine_161 ?_
              refine lv_topi (fun z_327 ez_327 => ?_)
              refine lv_iconst (v := 1) hx hb dX8_readLine_162 (by decide) ?_
              refine lv_iadd hx hb dX8_readLine_163 ?_
              refine lv_topi (fun z_328 ez_328 => ?_)
              refine va_iast hx hb hK hP hD hS 0 0 rfl rfl (vp_in_c (by decide)) dX8_readLine_164 (fun H locs hP hD hS => ?_)
              replace hP : va_P D vwCl [((mm 5), .inl (k 0, 409, .inl (upd f_312 (7 : Int32).toNatClampNeg z_328))), ((mm 0), .inr (7, [.int (mf 0), .ref (mm 1), .ref (mm 2), .ref (mm 3), .ref (mm 4), .ref (mm 5), .int (mf 6), .int v_316, .int v_317, .int (mf 9), .int v_318, .int v_319, .int v_303, .int v_304, .int (mf 14), .int (mf 15), .int (mf 16), .ref (mm 6), .int (mf 18), .ref (mm 7), .ref (mm 8), .ref (mm 9), .int (mf 22), .ref (mm 10), .ref (mm 11), .int (mf 25), .int (mf 26), .ref (mm 12), .ref (mm 13), .int (mf 29), .ref (mm 14), .ref (mm 15), .ref (mm 16)])), ((mm 4), .inl (k 0, 900, .inl tf))] H := hP
              replace hD : va_D A [((mm 5), .inl (k 0, 409, .inl (upd f_312 (7 : Int32).toNatClampNeg z_328))), ((mm 0), .inr (7, [.int (mf 0), .ref (mm 1), .ref (mm 2), .ref (mm 3), .ref (mm 4), .ref (mm 5), .int (mf 6), .int v_316, .int v_317, .int (mf 9), .int v_318, .int v_319, .int v_303, .int v_304, .int (mf 14), .int (mf 15), .int (mf 16), .ref (mm 6), .int (mf 18), .ref (mm 7), .ref (mm 8), .ref (mm 9), .int (mf 22), .ref (mm 10), .ref (mm 11), .int (mf 25), .int (mf 26), .ref (mm 12), .ref (mm 13), .int (mf 29), .ref (mm 14), .ref (mm 15), .ref (mm 16)])), ((mm 4), .inl (k 0, 900, .inl tf))] := hD
              generalize ef_329 : (upd f_312 (7 : Int32).toNatClampNeg z_328) = f_329 at hP hD
              have hK_330 : FR v_303 f_329 := by rw [← ef_329]; exact FR_put (show FR v_303 f_312 from hK_313) (by decide) (by decide) (by decide)
              exact W.vret hx hb hr (fun t ht hW => ⟨⟨(v_316, v_317, v_318, v_319, v_303, v_304, f_329), rfl, ⟨(show 0 ≤ v_316.toInt ∧ v_316.toInt ≤ 900 from ⟨by omega, by omega⟩), (show 0 ≤ v_317.toInt ∧ v_317.toInt ≤ 900 from ⟨by omega, by omega⟩), (show v_316.toInt ≤ v_317.toInt from by omega), (show v_317.toInt ≤ (mf 9).toInt from by omega), (show v_318.toInt = 13 ∨ v_316.toInt < v_317.toInt from by omega), (show v_303.toInt ≠ 0 ∨ (mf 7).toInt < v_316.toInt from by omega), (show FR v_303 f_329 from hK_330)⟩, by rw [ht]; exact hP.sub [1, 2, 0] rfl, hD.sub [1, 2, 0] (by decide) rfl⟩, hS.F ht⟩) hS.2.2 dX8_readLine_165
            · have c_326 : r_314.toInt = 0 := ti_eq c_326
              have qc_326 : r_314 = 0 := ti_of (show r_314.toInt = 0 from by omega)
              refine lv_aload_n hx hb dX8_readLine_149 rfl (lv_at hl 0 rfl) ?_
              refine lv_iconst (v := 2) hx hb dX8_readLine_150 (by decide) ?_
              refine kV_uv (q0 := 0) (As := [.int 2]) (rest := []) (wr := [((mm 5), .inl (k 0, 409, .inl f_312)), ((mm 4), .inl (k 0, 900, .inl tf))]) ⟨hx, hb, hml, hown, hts⟩ (s_M_fails l D k _ (va_seli [(mf 0), 0, 0, 0, 0, 0, (mf 6), v_316, v_317, (mf 9), v_318, v_319, v_303, v_304, (mf 14), (mf 15), (mf 16), 0, (mf 18), 0, 0, 0, (mf 22), 0, 0, (mf 25), (mf 26), 0, 0, (mf 29)]) 2 _ (show 1 ≤ (2 : Int32).toInt ∧ (2 : Int32).toInt ≤ 4 from ⟨by decide, by decide⟩)) (gV mwn_331 mwn_332 mwn_333 mwn_5 mwn_334) hdn_yX8_fails rfl rfl ⟨Nat.le_of_ble_eq_true rfl, Nat.le_of_ble_eq_true rfl⟩ hK hN0 hP hD hS hA [1] [0, 2] rfl rfl (by decide) (by decide) (by decide) rfl rfl rfl rfl hl.1 rfl (Nat.le_of_ble_eq_true rfl) dX8_readLine_151 ⟨Nat.le_of_ble_eq_true rfl, Nat.le_of_ble_eq_true rfl⟩ (fun u_332 H locs hw hP hD hS => ?_)
              obtain ⟨v_333, v_334⟩ := u_332
              have h_335 := hw
              replace h_335 : v_333.toInt ≠ 0 := h_335
              replace hP : va_P D vwCl [((mm 5), .inl (k 0, 409, .inl f_312)), ((mm 4), .inl (k 0, 900, .inl tf)), ((mm 0), .inr (7, [.int (mf 0), .ref (mm 1), .ref (mm 2), .ref (mm 3), .ref (mm 4), .ref (mm 5), .int (mf 6), .int v_316, .int v_317, .int (mf 9), .int v_318, .int v_319, .int v_333, .int v_334, .int (mf 14), .int (mf 15), .int (mf 16), .ref (mm 6), .int (mf 18), .ref (mm 7), .ref (mm 8), .ref (mm 9), .int (mf 22), .ref (mm 10), .ref (mm 11), .int (mf 25), .int (mf 26), .ref (mm 12), .ref (mm 13), .int (mf 29), .ref (mm 14), .ref (mm 15), .ref (mm 16)]))] H := hP
              replace hD : va_D A [((mm 5), .inl (k 0, 409, .inl f_312)), ((mm 4), .inl (k 0, 900, .inl tf)), ((mm 0), .inr (7, [.int (mf 0), .ref (mm 1), .ref (mm 2), .ref (mm 3), .ref (mm 4), .ref (mm 5), .int (mf 6), .int v_316, .int v_317, .int (mf 9), .int v_318, .int v_319, .int v_333, .int v_334, .int (mf 14), .int (mf 15), .int (mf 16), .ref (mm 6), .int (mf 18), .ref (mm 7), .ref (mm 8), .ref (mm 9), .int (mf 22), .ref (mm 10), .ref (mm 11), .int (mf 25), .int (mf 26), .ref (mm 12), .ref (mm 13), .int (mf 29), .ref (mm 14), .ref (mm 15), .ref (mm 16)]))] := hD
              refine lv_aload_n hx hb dX8_readLine_154 rfl (lv_at hl 0 rfl) ?_
              refine va_get (D := D) (ci := 7) (v := .ref (mm 5)) (C := RX8) (T := TX8) (N := 33) hx hb hts inlX8 hown hK hP 2 rfl rfl 5 (by decide) (hts _ mwn_95) (fun _ h9 => h9) rfl dX8_readLine_155 ?_
              refine lv_bipush (v := 7) hx hb dX8_readLine_158 (by decide) ?_
              refine lv_dup2_11 hx hb dX8_readLine_160 rfl rfl ?_
              refine va_iald hx hb hK hP 0 0 rfl rfl (vp_in_c (by decide)) dX8_readLine_161 ?_
              refine lv_topi (fun z_336 ez_336 => ?_)
              refine lv_iconst (v := 1) hx hb dX8_readLine_162 (by decide) ?_
              refine lv_iadd hx hb dX8_readLine_163 ?_
              refine lv_topi (fun z_337 ez_337 => ?_)
              refine va_iast hx hb hK hP hD hS 0 0 rfl rfl (vp_in_c (by decide)) dX8_readLine_164 (fun H locs hP hD hS => ?_)
              replace hP : va_P D vwCl [((mm 5), .inl (k 0, 409, .inl (upd f_312 (7 : Int32).toNatClampNeg z_337))), ((mm 4), .inl (k 0, 900, .inl tf)), ((mm 0), .inr (7, [.int (mf 0), .ref (mm 1), .ref (mm 2), .ref (mm 3), .ref (mm 4), .ref (mm 5), .int (mf 6), .int v_316, .int v_317, .int (mf 9), .int v_318, .int v_319, .int v_333, .int v_334, .int (mf 14), .int (mf 15), .int (mf 16), .ref (mm 6), .int (mf 18), .ref (mm 7), .ref (mm 8), .ref (mm 9), .int (mf 22), .ref (mm 10), .ref (mm 11), .int (mf 25), .int (mf 26), .ref (mm 12), .ref (mm 13), .int (mf 29), .ref (mm 14), .ref (mm 15), .ref (mm 16)]))] H := hP
              replace hD : va_D A [((mm 5), .inl (k 0, 409, .inl (upd f_312 (7 : Int32).toNatClampNeg z_337))), ((mm 4), .inl (k 0, 900, .inl tf)), ((mm 0), .inr (7, [.int (mf 0), .ref (mm 1), .ref (mm 2), .ref (mm 3), .ref (mm 4), .ref (mm 5), .int (mf 6), .int v_316, .int v_317, .int (mf 9), .int v_318, .int v_319, .int v_333, .int v_334, .int (mf 14), .int (mf 15), .int (mf 16), .ref (mm 6), .int (mf 18), .ref (mm 7), .ref (mm 8), .ref (mm 9), .int (mf 22), .ref (mm 10), .ref (mm 11), .int (mf 25), .int (mf 26), .ref (mm 12), .ref (mm 13), .int (mf 29), .ref (mm 14), .ref (mm 15), .ref (mm 16)]))] := hD
              generalize ef_338 : (upd f_312 (7 : Int32).toNatClampNeg z_337) = f_338 at hP hD
              have hK_339 : FR v_333 f_338 := by rw [← ef_338]; exact FR_put (show FR v_333 f_312 from (by first | exact Or.inl (by omega) | exact FR_w hK_313 (by omega) | (rcases (show v_333.toInt ≠ 0 ∨ v_303.toInt = 0 from by omega) with q | q <;> first | exact Or.inl q | exact FR_w hK_313 q))) (by decide) (by decide) (by decide)
              exact W.vret hx hb hr (fun t ht hW => ⟨⟨(v_316, v_317, v_318, v_319, v_333, v_334, f_338), rfl, ⟨(show 0 ≤ v_316.toInt ∧ v_316.toInt ≤ 900 from ⟨by omega, by omega⟩), (show 0 ≤ v_317.toInt ∧ v_317.toInt ≤ 900 from ⟨by omega, by omega⟩), (show v_316.toInt ≤ v_317.toInt from by omega), (show v_317.toInt ≤ (mf 9).toInt from by omega), (show v_318.toInt = 13 ∨ v_316.toInt < v_317.toInt from by omega), (show v_333.toInt ≠ 0 ∨ (mf 7).toInt < v_316.toInt from by omega), (show FR v_333 f_338 from hK_339)⟩, by rw [ht]; exact hP.sub [2, 1, 0] rfl, hD.sub [2, 1, 0] (by decide) rfl⟩, hS.F ht⟩) hS.2.2 dX8_readLine_165
        · have c_179 : z_178.toInt = 0 := ti_eq c_179
          have qc_179 : z_178 = 0 := ti_of (show z_178.toInt = 0 from by omega)
          refine lv_aload_n hx hb dX8_readLine_53 rfl (lv_at hl 0 rfl) ?_
          refine kV_uvs (q0 := 0) (As := []) (rest := []) (wr := [((mm 5), .inl (k 0, 409, .inl ef))]) ⟨hx, hb, hml, hown, hts⟩ (s_M_nextToken l D k ak av _ (va_seli [(mf 0), 0, 0, 0, 0, 0, (mf 6), v_5, v_6, (mf 9), v_7, v_8, (mf 12), (mf 13), (mf 14), (mf 15), (mf 16), 0, (mf 18), 0, 0, 0, (mf 22), 0, 0, (mf 25), (mf 26), 0, 0, (mf 29)]) tf _ (show 0 ≤ v_6.toInt ∧ v_6.toInt ≤ 900 from ⟨by omega, by omega⟩) (show 0 ≤ (mf 9).toInt ∧ (mf 9).toInt ≤ 900 from ⟨by omega, by omega⟩) (show v_6.toInt ≤ (mf 9).toInt from by omega)) (gV mwn_297 mwn_298 mwn_299 mwn_5 mwn_300) hdn_yX8_nextToken rfl rfl ⟨Nat.le_of_ble_eq_true rfl, Nat.le_of_ble_eq_true rfl⟩ hK hN0 hW0 hS hP hD hS hA [1, 2] [0] rfl rfl (by decide) (by decide) (by decide) rfl rfl rfl rfl hl.1 rfl (Nat.le_of_ble_eq_true rfl) dX8_readLine_54 ⟨Nat.le_of_ble_eq_true rfl, Nat.le_of_ble_eq_true rfl⟩ (fun u_341 H locs hw hP hD hS => ?_)
          obtain ⟨v_342, v_343, v_344, v_345⟩ := u_341
          obtain ⟨h_346, h_347, h_348, h_349, h_350, h_351⟩ := hw
          replace h_346 : 0 ≤ v_342.toInt ∧ v_342.toInt ≤ 900 := h_346
          replace h_347 : 0 ≤ v_343.toInt ∧ v_343.toInt ≤ 900 := h_347
          replace h_348 : v_342.toInt ≤ v_343.toInt := h_348
          replace h_349 : v_343.toInt ≤ (mf 9).toInt := h_349
          replace h_350 : v_344.toInt = 13 ∨ v_342.toInt < v_343.toInt := h_350
          replace h_351 : v_6.toInt ≤ v_342.toInt := h_351
          replace hP : va_P D vwCl [((mm 5), .inl (k 0, 409, .inl ef)), ((mm 0), .inr (7, [.int (mf 0), .ref (mm 1), .ref (mm 2), .ref (mm 3), .ref (mm 4), .ref (mm 5), .int (mf 6), .int v_342, .int v_343, .int (mf 9), .int v_344, .int v_345, .int (mf 12), .int (mf 13), .int (mf 14), .int (mf 15), .int (mf 16), .ref (mm 6), .int (mf 18), .ref (mm 7), .ref (mm 8), .ref (mm 9), .int (mf 22), .ref (mm 10), .ref (mm 11), .int (mf 25), .int (mf 26), .ref (mm 12), .ref (mm 13), .int (mf 29), .ref (mm 14), .ref (mm 15), .ref (mm 16)])), ((mm 4), .inl (k 0, 900, .inl tf))] H := hP
          replace hD : va_D A [((mm 5), .inl (k 0, 409, .inl ef)), ((mm 0), .inr (7, [.int (mf 0), .ref (mm 1), .ref (mm 2), .ref (mm 3), .ref (mm 4), .ref (mm 5), .int (mf 6), .int v_342, .int v_343, .int (mf 9), .int v_344, .int v_345, .int (mf 12), .int (mf 13), .int (mf 14), .int (mf 15), .int (mf 16), .ref (mm 6), .int (mf 18), .ref (mm 7), .ref (mm 8), .ref (mm 9), .int (mf 22), .ref (mm 10), .ref (mm 11), .int (mf 25), .int (mf 26), .ref (mm 12), .ref (mm 13), .int (mf 29), .ref (mm 14), .ref (mm 15), .ref (mm 16)])), ((mm 4), .inl (k 0, 900, .inl tf))] := hD
          refine lv_aload_n hx hb dX8_readLine_57 rfl (lv_at hl 0 rfl) ?_
          refine va_get (D := D) (ci := 7) (v := .ref (mm 5)) (C := RX8) (T := TX8) (N := 33) hx hb hts inlX8 hown hK hP 1 rfl rfl 5 (by decide) (hts _ mwn_95) (fun _ h9 => h9) rfl dX8_readLine_58 ?_
          refine lv_iconst (v := 2) hx hb dX8_readLine_61 (by decide) ?_
          refine lv_aload_n hx hb dX8_readLine_62 rfl (lv_at hl 0 rfl) ?_
          refine lv_iconst (v := 1) hx hb dX8_readLine_63 (by decide) ?_
          refine lv_bipush (v := 6) hx hb dX8_readLine_64 (by decide) ?_
          refine kV_uis (q0 := 0) (As := [.int 1, .int 6]) (rest := [.int 2, .ref (mm 5)]) (wr := [((mm 5), .inl (k 0, 409, .inl ef))]) ⟨hx, hb, hml, hown, hts⟩ (s_M_takes l D k ak av _ (va_seli [(mf 0), 0, 0, 0, 0, 0, (mf 6), v_342, v_343, (mf 9), v_344, v_345, (mf 12), (mf 13), (mf 14), (mf 15), (mf 16), 0, (mf 18), 0, 0, 0, (mf 22), 0, 0, (mf 25), (mf 26), 0, 0, (mf 29)]) tf 1 6 _ (show 0 ≤ v_342.toInt ∧ v_342.toInt ≤ 900 from ⟨by omega, by omega⟩) (show 0 ≤ v_343.toInt ∧ v_343.toInt ≤ 900 from ⟨by omega, by omega⟩) (show 0 ≤ (mf 9).toInt ∧ (mf 9).toInt ≤ 900 from ⟨by omega, by omega⟩) (show v_342.toInt ≤ v_343.toInt from by omega) (show v_343.toInt ≤ (mf 9).toInt from by omega) (show v_344.toInt = 13 ∨ v_342.toInt < v_343.toInt from by omega)) (gV mwn_339 mwn_340 mwn_341 mwn_5 mwn_342) hdn_yX8_takes rfl rfl ⟨Nat.le_of_ble_eq_true rfl, Nat.le_of_ble_eq_true rfl⟩ hK hN0 hW0 hS hP hD hS hA [1, 2] [0] rfl rfl (by decide) (by decide) (by decide) rfl rfl rfl rfl hl.1 rfl (Nat.le_of_ble_eq_true rfl) dX8_readLine_66 ⟨Nat.le_of_ble_eq_true rfl, Nat.le_of_ble_eq_true rfl⟩ (fun r_352 u_353 H locs hw hP hD hS => ?_)
          obtain ⟨v_354, v_355, v_356, v_357, v_358, v_359⟩ := u_353
          obtain ⟨hr_352, h_360, h_361, h_362, h_363, h_364, h_365, h_366⟩ := hw
          replace h_360 : 0 ≤ v_354.toInt ∧ v_354.toInt ≤ 900 := h_360
          replace h_361 : 0 ≤ v_355.toInt ∧ v_355.toInt ≤ 900 := h_361
          replace h_362 : v_354.toInt ≤ v_355.toInt := h_362
          replace h_363 : v_355.toInt ≤ (mf 9).toInt := h_363
          replace h_364 : v_356.toInt = 13 ∨ v_354.toInt < v_355.toInt := h_364
          replace h_365 : v_342.toInt ≤ v_354.toInt := h_365
          replace h_366 : v_358.toInt ≠ 0 ∨ (mf 12).toInt = 0 := h_366
          replace hP : va_P D vwCl [((mm 5), .inl (k 0, 409, .inl ef)), ((mm 0), .inr (7, [.int (mf 0), .ref (mm 1), .ref (mm 2), .ref (mm 3), .ref (mm 4), .ref (mm 5), .int (mf 6), .int v_354, .int v_355, .int (mf 9), .int v_356, .int v_357, .int v_358, .int v_359, .int (mf 14), .int (mf 15), .int (mf 16), .ref (mm 6), .int (mf 18), .ref (mm 7), .ref (mm 8), .ref (mm 9), .int (mf 22), .ref (mm 10), .ref (mm 11), .int (mf 25), .int (mf 26), .ref (mm 12), .ref (mm 13), .int (mf 29), .ref (mm 14), .ref (mm 15), .ref (mm 16)])), ((mm 4), .inl (k 0, 900, .inl tf))] H := hP
          replace hD : va_D A [((mm 5), .inl (k 0, 409, .inl ef)), ((mm 0), .inr (7, [.int (mf 0), .ref (mm 1), .ref (mm 2), .ref (mm 3), .ref (mm 4), .ref (mm 5), .int (mf 6), .int v_354, .int v_355, .int (mf 9), .int v_356, .int v_357, .int v_358, .int v_359, .int (mf 14), .int (mf 15), .int (mf 16), .ref (mm 6), .int (mf 18), .ref (mm 7), .ref (mm 8), .ref (mm 9), .int (mf 22), .ref (mm 10), .ref (mm 11), .int (mf 25), .int (mf 26), .ref (mm 12), .ref (mm 13), .int (mf 29), .ref (mm 14), .ref (mm 15), .ref (mm 16)])), ((mm 4), .inl (k 0, 900, .inl tf))] := hD
          replace hr_352 : v_358.toInt ≠ 0 ∨ (1 ≤ r_352.toInt ∧ r_352.toInt ≤ 6) := hr_352
          refine va_iast hx hb hK hP hD hS 0 0 rfl rfl (vp_in_c (by decide)) dX8_readLine_69 (fun H locs hP hD hS => ?_)
          replace hP : va_P D vwCl [((mm 5), .inl (k 0, 409, .inl (upd ef (2 : Int32).toNatClampNeg r_352))), ((mm 0), .inr (7, [.int (mf 0), .ref (mm 1), .ref (mm 2), .ref (mm 3), .ref (mm 4), .ref (mm 5), .int (mf 6), .int v_354, .int v_355, .int (mf 9), .int v_356, .int v_357, .int v_358, .int v_359, .int (mf 14), .int (mf 15), .int (mf 16), .ref (mm 6), .int (mf 18), .ref (mm 7), .ref (mm 8), .ref (mm 9), .int (mf 22), .ref (mm 10), .ref (mm 11), .int (mf 25), .int (mf 26), .ref (mm 12), .ref (mm 13), .int (mf 29), .ref (mm 14), .ref (mm 15), .ref (mm 16)])), ((mm 4), .inl (k 0, 900, .inl tf))] H := hP
          replace hD : va_D A [((mm 5), .inl (k 0, 409, .inl (upd ef (2 : Int32).toNatClampNeg r_352))), ((mm 0), .inr (7, [.int (mf 0), .ref (mm 1), .ref (mm 2), .ref (mm 3), .ref (mm 4), .ref (mm 5), .int (mf 6), .int v_354, .int v_355, .int (mf 9), .int v_356, .int v_357, .int v_358, .int v_359, .int (mf 14), .int (mf 15), .int (mf 16), .ref (mm 6), .int (mf 18), .ref (mm 7), .ref (mm 8), .ref (mm 9), .int (mf 22), .ref (mm 10), .ref (mm 11), .int (mf 25), .int (mf 26), .ref (mm 12), .ref (mm 13), .int (mf 29), .ref (mm 14), .ref (mm 15), .ref (mm 16)])), ((mm 4), .inl (k 0, 900, .inl tf))] := hD
          generalize ef_367 : (upd ef (2 : Int32).toNatClampNeg r_352) = f_367 at hP hD
          have hK_368 : FR v_358 f_367 := by rw [← ef_367]; exact FR_deep (show FR (mf 12) ef from w_fr) (by omega) (by decide) (by omega)
          refine lv_goto (tgt := 140) hx hb dX8_readLine_70 (by decide) ?_
          refine lv_aload_n hx hb dX8_readLine_140 rfl (lv_at hl 0 rfl) ?_
          refine lv_bipush (v := 12) hx hb dX8_readLine_141 (by decide) ?_
          refine kV_uis (q0 := 0) (As := [.int 12]) (rest := []) (wr := [((mm 5), .inl (k 0, 409, .inl f_367))]) ⟨hx, hb, hml, hown, hts⟩ (s_M_eats l D k ak av _ (va_seli [(mf 0), 0, 0, 0, 0, 0, (mf 6), v_354, v_355, (mf 9), v_356, v_357, v_358, v_359, (mf 14), (mf 15), (mf 16), 0, (mf 18), 0, 0, 0, (mf 22), 0, 0, (mf 25), (mf 26), 0, 0, (mf 29)]) tf 12 _ (show 0 ≤ v_354.toInt ∧ v_354.toInt ≤ 900 from ⟨by omega, by omega⟩) (show 0 ≤ v_355.toInt ∧ v_355.toInt ≤ 900 from ⟨by omega, by omega⟩) (show 0 ≤ (mf 9).toInt ∧ (mf 9).toInt ≤ 900 from ⟨by omega, by omega⟩) (show v_354.toInt ≤ v_355.toInt from by omega) (show v_355.toInt ≤ (mf 9).toInt from by omega) (show v_356.toInt = 13 ∨ v_354.toInt < v_355.toInt from by omega)) (gV mwn_343 mwn_344 mwn_345 mwn_5 mwn_346) hdn_yX8_eats rfl rfl ⟨Nat.le_of_ble_eq_true rfl, Nat.le_of_ble_eq_true rfl⟩ hK hN0 hW0 hS hP hD hS hA [1, 2] [0] rfl rfl (by decide) (by decide) (by decide) rfl rfl rfl rfl hl.1 rfl (Nat.le_of_ble_eq_true rfl) dX8_readLine_143 ⟨Nat.le_of_ble_eq_true rfl, Nat.le_of_ble_eq_true rfl⟩ (fun r_369 u_370 H locs hw hP hD hS => ?_)
          obtain ⟨v_371, v_372, v_373, v_374⟩ := u_370
          obtain ⟨hr_369, h_375, h_376, h_377, h_378, h_379, h_380⟩ := hw
          replace h_375 : 0 ≤ v_371.toInt ∧ v_371.toInt ≤ 900 := h_375
          replace h_376 : 0 ≤ v_372.toInt ∧ v_372.toInt ≤ 900 := h_376
          replace h_377 : v_371.toInt ≤ v_372.toInt := h_377
          replace h_378 : v_372.toInt ≤ (mf 9).toInt := h_378
          replace h_379 : v_373.toInt = 13 ∨ v_371.toInt < v_372.toInt := h_379
          replace h_380 : v_354.toInt ≤ v_371.toInt := h_380
          replace hP : va_P D vwCl [((mm 5), .inl (k 0, 409, .inl f_367)), ((mm 0), .inr (7, [.int (mf 0), .ref (mm 1), .ref (mm 2), .ref (mm 3), .ref (mm 4), .ref (mm 5), .int (mf 6), .int v_371, .int v_372, .int (mf 9), .int v_373, .int v_374, .int v_358, .int v_359, .int (mf 14), .int (mf 15), .int (mf 16), .ref (mm 6), .int (mf 18), .ref (mm 7), .ref (mm 8), .ref (mm 9), .int (mf 22), .ref (mm 10), .ref (mm 11), .int (mf 25), .int (mf 26), .ref (mm 12), .ref (mm 13), .int (mf 29), .ref (mm 14), .ref (mm 15), .ref (mm 16)])), ((mm 4), .inl (k 0, 900, .inl tf))] H := hP
          replace hD : va_D A [((mm 5), .inl (k 0, 409, .inl f_367)), ((mm 0), .inr (7, [.int (mf 0), .ref (mm 1), .ref (mm 2), .ref (mm 3), .ref (mm 4), .ref (mm 5), .int (mf 6), .int v_371, .int v_372, .int (mf 9), .int v_373, .int v_374, .int v_358, .int v_359, .int (mf 14), .int (mf 15), .int (mf 16), .ref (mm 6), .int (mf 18), .ref (mm 7), .ref (mm 8), .ref (mm 9), .int (mf 22), .ref (mm 10), .ref (mm 11), .int (mf 25), .int (mf 26), .ref (mm 12), .ref (mm 13), .int (mf 29), .ref (mm 14), .ref (mm 15), .ref (mm 16)])), ((mm 4), .inl (k 0, 900, .inl tf))] := hD
          replace hr_369 : r_369.toInt = 0 ∨ (r_369.toInt = 1 ∧ v_358.toInt = 0 ∧ v_356.toInt = 12 ∧ v_355.toInt ≤ v_371.toInt) := hr_369
          refine lv_if_ne (tgt := 154) hx hb dX8_readLine_146 (by decide) (fun c_381 => ?_) (fun c_381 => ?_)
          · have c_381 : r_369.toInt ≠ 0 := ti_ne c_381
            have qc_381 : r_369 = 1 := ti_of (show r_369.toInt = 1 from by omega)
            refine lv_aload_n hx hb dX8_readLine_154 rfl (lv_at hl 0 rfl) ?_
            refine va_get (D := D) (ci := 7) (v := .ref (mm 5)) (C := RX8) (T := TX8) (N := 33) hx hb hts inlX8 hown hK hP 1 rfl rfl 5 (by decide) (hts _ mwn_95) (fun _ h9 => h9) rfl dX8_readLine_155 ?_
            refine lv_bipush (v := 7) hx hb dX8_readLine_158 (by decide) ?_
            refine lv_dup2_11 hx hb dX8_readLine_160 rfl rfl ?_
            refine va_iald hx hb hK hP 0 0 rfl rfl (vp_in_c (by decide)) dX8_readLine_161 ?_
            refine lv_topi (fun z_382 ez_382 => ?_)
            refine lv_iconst (v := 1) hx hb dX8_readLine_162 (by decide) ?_
            refine lv_iadd hx hb dX8_readLine_163 ?_
            refine lv_topi (fun z_383 ez_383 => ?_)
            refine va_iast hx hb hK hP hD hS 0 0 rfl rfl (vp_in_c (by decide)) dX8_readLine_164 (fun H locs hP hD hS => ?_)
            replace hP : va_P D vwCl [((mm 5), .inl (k 0, 409, .inl (upd f_367 (7 : Int32).toNatClampNeg z_383))), ((mm 0), .inr (7, [.int (mf 0), .ref (mm 1), .ref (mm 2), .ref (mm 3), .ref (mm 4), .ref (mm 5), .int (mf 6), .int v_371, .int v_372, .int (mf 9), .int v_373, .int v_374, .int v_358, .int v_359, .int (mf 14), .int (mf 15), .int (mf 16), .ref (mm 6), .int (mf 18), .ref (mm 7), .ref (mm 8), .ref (mm 9), .int (mf 22), .ref (mm 10), .ref (mm 11), .int (mf 25), .int (mf 26), .ref (mm 12), .ref (mm 13), .int (mf 29), .ref (mm 14), .ref (mm 15), .ref (mm 16)])), ((mm 4), .inl (k 0, 900, .inl tf))] H := hP
            replace hD : va_D A [((mm 5), .inl (k 0, 409, .inl (upd f_367 (7 : Int32).toNatClampNeg z_383))), ((mm 0), .inr (7, [.int (mf 0), .ref (mm 1), .ref (mm 2), .ref (mm 3), .ref (mm 4), .ref (mm 5), .int (mf 6), .int v_371, .int v_372, .int (mf 9), .int v_373, .int v_374, .int v_358, .int v_359, .int (mf 14), .int (mf 15), .int (mf 16), .ref (mm 6), .int (mf 18), .ref (mm 7), .ref (mm 8), .ref (mm 9), .int (mf 22), .ref (mm 10), .ref (mm 11), .int (mf 25), .int (mf 26), .ref (mm 12), .ref (mm 13), .int (mf 29), .ref (mm 14), .ref (mm 15), .ref (mm 16)])), ((mm 4), .inl (k 0, 900, .inl tf))] := hD
            generalize ef_384 : (upd f_367 (7 : Int32).toNatClampNeg z_383) = f_384 at hP hD
            have hK_385 : FR v_358 f_384 := by rw [← ef_384]; exact FR_put (show FR v_358 f_367 from hK_368) (by decide) (by decide) (by decide)
            exact W.vret hx hb hr (fun t ht hW => ⟨⟨(v_371, v_372, v_373, v_374, v_358, v_359, f_384), rfl, ⟨(show 0 ≤ v_371.toInt ∧ v_371.toInt ≤ 900 from ⟨by omega, by omega⟩), (show 0 ≤ v_372.toInt ∧ v_372.toInt ≤ 900 from ⟨by omega, by omega⟩), (show v_371.toInt ≤ v_372.toInt from by omega), (show v_372.toInt ≤ (mf 9).toInt from by omega), (show v_373.toInt = 13 ∨ v_371.toInt < v_372.toInt from by omega), (show v_358.toInt ≠ 0 ∨ (mf 7).toInt < v_371.toInt from by omega), (show FR v_358 f_384 from hK_385)⟩, by rw [ht]; exact hP.sub [1, 2, 0] rfl, hD.sub [1, 2, 0] (by decide) rfl⟩, hS.F ht⟩) hS.2.2 dX8_readLine_165
          · have c_381 : r_369.toInt = 0 := ti_eq c_381
            have qc_381 : r_369 = 0 := ti_of (show r_369.toInt = 0 from by omega)
            refine lv_aload_n hx hb dX8_readLine_149 rfl (lv_at hl 0 rfl) ?_
            refine lv_iconst (v := 2) hx hb dX8_readLine_150 (by decide) ?_
            refine kV_uv (q0 := 0) (As := [.int 2]) (rest := []) (wr := [((mm 5), .inl (k 0, 409, .inl f_367)), ((mm 4), .inl (k 0, 900, .inl tf))]) ⟨hx, hb, hml, hown, hts⟩ (s_M_fails l D k _ (va_seli [(mf 0), 0, 0, 0, 0, 0, (mf 6), v_371, v_372, (mf 9), v_373, v_374, v_358, v_359, (mf 14), (mf 15), (mf 16), 0, (mf 18), 0, 0, 0, (mf 22), 0, 0, (mf 25), (mf 26), 0, 0, (mf 29)]) 2 _ (show 1 ≤ (2 : Int32).toInt ∧ (2 : Int32).toInt ≤ 4 from ⟨by decide, by decide⟩)) (gV mwn_331 mwn_332 mwn_333 mwn_5 mwn_334) hdn_yX8_fails rfl rfl ⟨Nat.le_of_ble_eq_true rfl, Nat.le_of_ble_eq_true rfl⟩ hK hN0 hP hD hS hA [1] [0, 2] rfl rfl (by decide) (by decide) (by decide) rfl rfl rfl rfl hl.1 rfl (Nat.le_of_ble_eq_true rfl) dX8_readLine_151 ⟨Nat.le_of_ble_eq_true rfl, Nat.le_of_ble_eq_true rfl⟩ (fun u_387 H locs hw hP hD hS => ?_)
            obtain ⟨v_388, v_389⟩ := u_387
            have h_390 := hw
            replace h_390 : v_388.toInt ≠ 0 := h_390
            replace hP : va_P D vwCl [((mm 5), .inl (k 0, 409, .inl f_367)), ((mm 4), .inl (k 0, 900, .inl tf)), ((mm 0), .inr (7, [.int (mf 0), .ref (mm 1), .ref (mm 2), .ref (mm 3), .ref (mm 4), .ref (mm 5), .int (mf 6), .int v_371, .int v_372, .int (mf 9), .int v_373, .int v_374, .int v_388, .int v_389, .int (mf 14), .int (mf 15), .int (mf 16), .ref (mm 6), .int (mf 18), .ref (mm 7), .ref (mm 8), .ref (mm 9), .int (mf 22), .ref (mm 10), .ref (mm 11), .int (mf 25), .int (mf 26), .ref (mm 12), .ref (mm 13), .int (mf 29), .ref (mm 14), .ref (mm 15), .ref (mm 16)]))] H := hP
            replace hD : va_D A [((mm 5), .inl (k 0, 409, .inl f_367)), ((mm 4), .inl (k 0, 900, .inl tf)), ((mm 0), .inr (7, [.int (mf 0), .ref (mm 1), .ref (mm 2), .ref (mm 3), .ref (mm 4), .ref (mm 5), .int (mf 6), .int v_371, .int v_372, .int (mf 9), .int v_373, .int v_374, .int v_388, .int v_389, .int (mf 14), .int (mf 15), .int (mf 16), .ref (mm 6), .int (mf 18), .ref (mm 7), .ref (mm 8), .ref (mm 9), .int (mf 22), .ref (mm 10), .ref (mm 11), .int (mf 25), .int (mf 26), .ref (mm 12), .ref (mm 13), .int (mf 29), .ref (mm 14), .ref (mm 15), .ref (mm 16)]))] := hD
            refine lv_aload_n hx hb dX8_readLine_154 rfl (lv_at hl 0 rfl) ?_
            refine va_get (D := D) (ci := 7) (v := .ref (mm 5)) (C := RX8) (T := TX8) (N := 33) hx hb hts inlX8 hown hK hP 2 rfl rfl 5 (by decide) (hts _ mwn_95) (fun _ h9 => h9) rfl dX8_readLine_155 ?_
            refine lv_bipush (v := 7) hx hb dX8_readLine_158 (by decide) ?_
            refine lv_dup2_11 hx hb dX8_readLine_160 rfl rfl ?_
            refine va_iald hx hb hK hP 0 0 rfl rfl (vp_in_c (by decide)) dX8_readLine_161 ?_
            refine lv_topi (fun z_391 ez_391 => ?_)
            refine lv_iconst (v := 1) hx hb dX8_readLine_162 (by decide) ?_
            refine lv_iadd hx hb dX8_readLine_163 ?_
            refine lv_topi (fun z_392 ez_392 => ?_)
            refine va_iast hx hb hK hP hD hS 0 0 rfl rfl (vp_in_c (by decide)) dX8_readLine_164 (fun H locs hP hD hS => ?_)
            replace hP : va_P D vwCl [((mm 5), .inl (k 0, 409, .inl (upd f_367 (7 : Int32).toNatClampNeg z_392))), ((mm 4), .inl (k 0, 900, .inl tf)), ((mm 0), .inr (7, [.int (mf 0), .ref (mm 1), .ref (mm 2), .ref (mm 3), .ref (mm 4), .ref (mm 5), .int (mf 6), .int v_371, .int v_372, .int (mf 9), .int v_373, .int v_374, .int v_388, .int v_389, .int (mf 14), .int (mf 15), .int (mf 16), .ref (mm 6), .int (mf 18), .ref (mm 7), .ref (mm 8), .ref (mm 9), .int (mf 22), .ref (mm 10), .ref (mm 11), .int (mf 25), .int (mf 26), .ref (mm 12), .ref (mm 13), .int (mf 29), .ref (mm 14), .ref (mm 15), .ref (mm 16)]))] H := hP
            replace hD : va_D A [((mm 5), .inl (k 0, 409, .inl (upd f_367 (7 : Int32).toNatClampNeg z_392))), ((mm 4), .inl (k 0, 900, .inl tf)), ((mm 0), .inr (7, [.int (mf 0), .ref (mm 1), .ref (mm 2), .ref (mm 3), .ref (mm 4), .ref (mm 5), .int (mf 6), .int v_371, .int v_372, .int (mf 9), .int v_373, .int v_374, .int v_388, .int v_389, .int (mf 14), .int (mf 15), .int (mf 16), .ref (mm 6), .int (mf 18), .ref (mm 7), .ref (mm 8), .ref (mm 9), .int (mf 22), .ref (mm 10), .ref (mm 11), .int (mf 25), .int (mf 26), .ref (mm 12), .ref (mm 13), .int (mf 29), .ref (mm 14), .ref (mm 15), .ref (mm 16)]))] := hD
            generalize ef_393 : (upd f_367 (7 : Int32).toNatClampNeg z_392) = f_393 at hP hD
            have hK_394 : FR v_388 f_393 := by rw [← ef_393]; exact FR_put (show FR v_388 f_367 from (by first | exact Or.inl (by omega) | exact FR_w hK_368 (by omega) | (rcases (show v_388.toInt ≠ 0 ∨ v_358.toInt = 0 from by omega) with q | q <;> first | exact Or.inl q | exact FR_w hK_368 q))) (by decide) (by decide) (by decide)
            exact W.vret hx hb hr (fun t ht hW => ⟨⟨(v_371, v_372, v_373, v_374, v_388, v_389, f_393), rfl, ⟨(show 0 ≤ v_371.toInt ∧ v_371.toInt ≤ 900 from ⟨by omega, by omega⟩), (show 0 ≤ v_372.toInt ∧ v_372.toInt ≤ 900 from ⟨by omega, by omega⟩), (show v_371.toInt ≤ v_372.toInt from by omega), (show v_372.toInt ≤ (mf 9).toInt from by omega), (show v_373.toInt = 13 ∨ v_371.toInt < v_372.toInt from by omega), (show v_388.toInt ≠ 0 ∨ (mf 7).toInt < v_371.toInt from by omega), (show FR v_388 f_393 from hK_394)⟩, by rw [ht]; exact hP.sub [2, 1, 0] rfl, hD.sub [2, 1, 0] (by decide) rfl⟩, hS.F ht⟩) hS.2.2 dX8_readLine_165
    · have c_15 : r_3.toInt ≠ 0 := ti_ne c_15
      have qc_15 : r_3 = 1 := ti_of (show r_3.toInt = 1 from by omega)
      refine lv_aload_n hx hb dX8_readLine_24 rfl (lv_at hl 0 rfl) ?_
      refine va_get (D := D) (ci := 7) (v := .ref (mm 5)) (C := RX8) (T := TX8) (N := 33) hx hb hts inlX8 hown hK hP 1 rfl rfl 5 (by decide) (hts _ mwn_95) (fun _ h9 => h9) rfl dX8_readLine_25 ?_
      refine lv_bipush (v := 6) hx hb dX8_readLine_28 (by decide) ?_
      refine lv_iconst (v := 1) hx hb dX8_readLine_30 (by decide) ?_
      refine va_iast hx hb hK hP hD hS 0 0 rfl rfl (vp_in_c (by decide)) dX8_readLine_31 (fun H locs hP hD hS => ?_)
      replace hP : va_P D vwCl [((mm 5), .inl (k 0, 409, .inl (upd ef (6 : Int32).toNatClampNeg 1))), ((mm 0), .inr (7, [.int (mf 0), .ref (mm 1), .ref (mm 2), .ref (mm 3), .ref (mm 4), .ref (mm 5), .int (mf 6), .int v_5, .int v_6, .int (mf 9), .int v_7, .int v_8, .int (mf 12), .int (mf 13), .int (mf 14), .int (mf 15), .int (mf 16), .ref (mm 6), .int (mf 18), .ref (mm 7), .ref (mm 8), .ref (mm 9), .int (mf 22), .ref (mm 10), .ref (mm 11), .int (mf 25), .int (mf 26), .ref (mm 12), .ref (mm 13), .int (mf 29), .ref (mm 14), .ref (mm 15), .ref (mm 16)])), ((mm 4), .inl (k 0, 900, .inl tf))] H := hP
      replace hD : va_D A [((mm 5), .inl (k 0, 409, .inl (upd ef (6 : Int32).toNatClampNeg 1))), ((mm 0), .inr (7, [.int (mf 0), .ref (mm 1), .ref (mm 2), .ref (mm 3), .ref (mm 4), .ref (mm 5), .int (mf 6), .int v_5, .int v_6, .int (mf 9), .int v_7, .int v_8, .int (mf 12), .int (mf 13), .int (mf 14), .int (mf 15), .int (mf 16), .ref (mm 6), .int (mf 18), .ref (mm 7), .ref (mm 8), .ref (mm 9), .int (mf 22), .ref (mm 10), .ref (mm 11), .int (mf 25), .int (mf 26), .ref (mm 12), .ref (mm 13), .int (mf 29), .ref (mm 14), .ref (mm 15), .ref (mm 16)])), ((mm 4), .inl (k 0, 900, .inl tf))] := hD
      generalize ef_395 : (upd ef (6 : Int32).toNatClampNeg 1) = f_395 at hP hD
      have hK_396 : FR (mf 12) f_395 := by rw [← ef_395]; exact FR_put (show FR (mf 12) ef from w_fr) (by decide) (by decide) (by decide)
      refine lv_goto (tgt := 140) hx hb dX8_readLine_32 (by decide) ?_
      refine lv_aload_n hx hb dX8_readLine_140 rfl (lv_at hl 0 rfl) ?_
      refine lv_bipush (v := 12) hx hb dX8_readLine_141 (by decide) ?_
      refine kV_uis (q0 := 0) (As := [.int 12]) (rest := []) (wr := [((mm 5), .inl (k 0, 409, .inl f_395))]) ⟨hx, hb, hml, hown, hts⟩ (s_M_eats l D k ak av _ (va_seli [(mf 0), 0, 0, 0, 0, 0, (mf 6), v_5, v_6, (mf 9), v_7, v_8, (mf 12), (mf 13), (mf 14), (mf 15), (mf 16), 0, (mf 18), 0, 0, 0, (mf 22), 0, 0, (mf 25), (mf 26), 0, 0, (mf 29)]) tf 12 _ (show 0 ≤ v_5.toInt ∧ v_5.toInt ≤ 900 from ⟨by omega, by omega⟩) (show 0 ≤ v_6.toInt ∧ v_6.toInt ≤ 900 from ⟨by omega, by omega⟩) (show 0 ≤ (mf 9).toInt ∧ (mf 9).toInt ≤ 900 from ⟨by omega, by omega⟩) (show v_5.toInt ≤ v_6.toInt from by omega) (show v_6.toInt ≤ (mf 9).toInt from by omega) (show v_7.toInt = 13 ∨ v_5.toInt < v_6.toInt from by omega)) (gV mwn_343 mwn_344 mwn_345 mwn_5 mwn_346) hdn_yX8_eats rfl rfl ⟨Nat.le_of_ble_eq_true rfl, Nat.le_of_ble_eq_true rfl⟩ hK hN0 hW0 hS hP hD hS hA [1, 2] [0] rfl rfl (by decide) (by decide) (by decide) rfl rfl rfl rfl hl.1 rfl (Nat.le_of_ble_eq_true rfl) dX8_readLine_143 ⟨Nat.le_of_ble_eq_true rfl, Nat.le_of_ble_eq_true rfl⟩ (fun r_397 u_398 H locs hw hP hD hS => ?_)
      obtain ⟨v_399, v_400, v_401, v_402⟩ := u_398
      obtain ⟨hr_397, h_403, h_404, h_405, h_406, h_407, h_408⟩ := hw
      replace h_403 : 0 ≤ v_399.toInt ∧ v_399.toInt ≤ 900 := h_403
      replace h_404 : 0 ≤ v_400.toInt ∧ v_400.toInt ≤ 900 := h_404
      replace h_405 : v_399.toInt ≤ v_400.toInt := h_405
      replace h_406 : v_400.toInt ≤ (mf 9).toInt := h_406
      replace h_407 : v_401.toInt = 13 ∨ v_399.toInt < v_400.toInt := h_407
      replace h_408 : v_5.toInt ≤ v_399.toInt := h_408
      replace hP : va_P D vwCl [((mm 5), .inl (k 0, 409, .inl f_395)), ((mm 0), .inr (7, [.int (mf 0), .ref (mm 1), .ref (mm 2), .ref (mm 3), .ref (mm 4), .ref (mm 5), .int (mf 6), .int v_399, .int v_400, .int (mf 9), .int v_401, .int v_402, .int (mf 12), .int (mf 13), .int (mf 14), .int (mf 15), .int (mf 16), .ref (mm 6), .int (mf 18), .ref (mm 7), .ref (mm 8), .ref (mm 9), .int (mf 22), .ref (mm 10), .ref (mm 11), .int (mf 25), .int (mf 26), .ref (mm 12), .ref (mm 13), .int (mf 29), .ref (mm 14), .ref (mm 15), .ref (mm 16)])), ((mm 4), .inl (k 0, 900, .inl tf))] H := hP
      replace hD : va_D A [((mm 5), .inl (k 0, 409, .inl f_395)), ((mm 0), .inr (7, [.int (mf 0), .ref (mm 1), .ref (mm 2), .ref (mm 3), .ref (mm 4), .ref (mm 5), .int (mf 6), .int v_399, .int v_400, .int (mf 9), .int v_401, .int v_402, .int (mf 12), .int (mf 13), .int (mf 14), .int (mf 15), .int (mf 16), .ref (mm 6), .int (mf 18), .ref (mm 7), .ref (mm 8), .ref (mm 9), .int (mf 22), .ref (mm 10), .ref (mm 11), .int (mf 25), .int (mf 26), .ref (mm 12), .ref (mm 13), .int (mf 29), .ref (mm 14), .ref (mm 15), .ref (mm 16)])), ((mm 4), .inl (k 0, 900, .inl tf))] := hD
      replace hr_397 : r_397.toInt = 0 ∨ (r_397.toInt = 1 ∧ (mf 12).toInt = 0 ∧ v_7.toInt = 12 ∧ v_6.toInt ≤ v_399.toInt) := hr_397
      refine lv_if_ne (tgt := 154) hx hb dX8_readLine_146 (by decide) (fun c_409 => ?_) (fun c_409 => ?_)
      · have c_409 : r_397.toInt ≠ 0 := ti_ne c_409
        have qc_409 : r_397 = 1 := ti_of (show r_397.toInt = 1 from by omega)
        refine lv_aload_n hx hb dX8_readLine_154 rfl (lv_at hl 0 rfl) ?_
        refine va_get (D := D) (ci := 7) (v := .ref (mm 5)) (C := RX8) (T := TX8) (N := 33) hx hb hts inlX8 hown hK hP 1 rfl rfl 5 (by decide) (hts _ mwn_95) (fun _ h9 => h9) rfl dX8_readLine_155 ?_
        refine lv_bipush (v := 7) hx hb dX8_readLine_158 (by decide) ?_
        refine lv_dup2_11 hx hb dX8_readLine_160 rfl rfl ?_
        refine va_iald hx hb hK hP 0 0 rfl rfl (vp_in_c (by decide)) dX8_readLine_161 ?_
        refine lv_topi (fun z_410 ez_410 => ?_)
        refine lv_iconst (v := 1) hx hb dX8_readLine_162 (by decide) ?_
        refine lv_iadd hx hb dX8_readLine_163 ?_
        refine lv_topi (fun z_411 ez_411 => ?_)
        refine va_iast hx hb hK hP hD hS 0 0 rfl rfl (vp_in_c (by decide)) dX8_readLine_164 (fun H locs hP hD hS => ?_)
        replace hP : va_P D vwCl [((mm 5), .inl (k 0, 409, .inl (upd f_395 (7 : Int32).toNatClampNeg z_411))), ((mm 0), .inr (7, [.int (mf 0), .ref (mm 1), .ref (mm 2), .ref (mm 3), .ref (mm 4), .ref (mm 5), .int (mf 6), .int v_399, .int v_400, .int (mf 9), .int v_401, .int v_402, .int (mf 12), .int (mf 13), .int (mf 14), .int (mf 15), .int (mf 16), .ref (mm 6), .int (mf 18), .ref (mm 7), .ref (mm 8), .ref (mm 9), .int (mf 22), .ref (mm 10), .ref (mm 11), .int (mf 25), .int (mf 26), .ref (mm 12), .ref (mm 13), .int (mf 29), .ref (mm 14), .ref (mm 15), .ref (mm 16)])), ((mm 4), .inl (k 0, 900, .inl tf))] H := hP
        replace hD : va_D A [((mm 5), .inl (k 0, 409, .inl (upd f_395 (7 : Int32).toNatClampNeg z_411))), ((mm 0), .inr (7, [.int (mf 0), .ref (mm 1), .ref (mm 2), .ref (mm 3), .ref (mm 4), .ref (mm 5), .int (mf 6), .int v_399, .int v_400, .int (mf 9), .int v_401, .int v_402, .int (mf 12), .int (mf 13), .int (mf 14), .int (mf 15), .int (mf 16), .ref (mm 6), .int (mf 18), .ref (mm 7), .ref (mm 8), .ref (mm 9), .int (mf 22), .ref (mm 10), .ref (mm 11), .int (mf 25), .int (mf 26), .ref (mm 12), .ref (mm 13), .int (mf 29), .ref (mm 14), .ref (mm 15), .ref (mm 16)])), ((mm 4), .inl (k 0, 900, .inl tf))] := hD
        generalize ef_412 : (upd f_395 (7 : Int32).toNatClampNeg z_411) = f_412 at hP hD
        have hK_413 : FR (mf 12) f_412 := by rw [← ef_412]; exact FR_put (show FR (mf 12) f_395 from hK_396) (by decide) (by decide) (by decide)
        exact W.vret hx hb hr (fun t ht hW => ⟨⟨(v_399, v_400, v_401, v_402, (mf 12), (mf 13), f_412), rfl, ⟨(show 0 ≤ v_399.toInt ∧ v_399.toInt ≤ 900 from ⟨by omega, by omega⟩), (show 0 ≤ v_400.toInt ∧ v_400.toInt ≤ 900 from ⟨by omega, by omega⟩), (show v_399.toInt ≤ v_400.toInt from by omega), (show v_400.toInt ≤ (mf 9).toInt from by omega), (show v_401.toInt = 13 ∨ v_399.toInt < v_400.toInt from by omega), (show (mf 12).toInt ≠ 0 ∨ (mf 7).toInt < v_399.toInt from by omega), (show FR (mf 12) f_412 from hK_413)⟩, by rw [ht]; exact hP.sub [1, 2, 0] rfl, hD.sub [1, 2, 0] (by decide) rfl⟩, hS.F ht⟩) hS.2.2 dX8_readLine_165
      · have c_409 : r_397.toInt = 0 := ti_eq c_409
        have qc_409 : r_397 = 0 := ti_of (show r_397.toInt = 0 from by omega)
        refine lv_aload_n hx hb dX8_readLine_149 rfl (lv_at hl 0 rfl) ?_
        refine lv_iconst (v := 2) hx hb dX8_readLine_150 (by decide) ?_
        refine kV_uv (q0 := 0) (As := [.int 2]) (rest := []) (wr := [((mm 5), .inl (k 0, 409, .inl f_395)), ((mm 4), .inl (k 0, 900, .inl tf))]) ⟨hx, hb, hml, hown, hts⟩ (s_M_fails l D k _ (va_seli [(mf 0), 0, 0, 0, 0, 0, (mf 6), v_399, v_400, (mf 9), v_401, v_402, (mf 12), (mf 13), (mf 14), (mf 15), (mf 16), 0, (mf 18), 0, 0, 0, (mf 22), 0, 0, (mf 25), (mf 26), 0, 0, (mf 29)]) 2 _ (show 1 ≤ (2 : Int32).toInt ∧ (2 : Int32).toInt ≤ 4 from ⟨by decide, by decide⟩)) (gV mwn_331 mwn_332 mwn_333 mwn_5 mwn_334) hdn_yX8_fails rfl rfl ⟨Nat.le_of_ble_eq_true rfl, Nat.le_of_ble_eq_true rfl⟩ hK hN0 hP hD hS hA [1] [0, 2] rfl rfl (by decide) (by decide) (by decide) rfl rfl rfl rfl hl.1 rfl (Nat.le_of_ble_eq_true rfl) dX8_readLine_151 ⟨Nat.le_of_ble_eq_true rfl, Nat.le_of_ble_eq_true rfl⟩ (fun u_415 H locs hw hP hD hS => ?_)
        obtain ⟨v_416, v_417⟩ := u_415
        have h_418 := hw
        replace h_418 : v_416.toInt ≠ 0 := h_418
        replace hP : va_P D vwCl [((mm 5), .inl (k 0, 409, .inl f_395)), ((mm 4), .inl (k 0, 900, .inl tf)), ((mm 0), .inr (7, [.int (mf 0), .ref (mm 1), .ref (mm 2), .ref (mm 3), .ref (mm 4), .ref (mm 5), .int (mf 6), .int v_399, .int v_400, .int (mf 9), .int v_401, .int v_402, .int v_416, .int v_417, .int (mf 14), .int (mf 15), .int (mf 16), .ref (mm 6), .int (mf 18), .ref (mm 7), .ref (mm 8), .ref (mm 9), .int (mf 22), .ref (mm 10), .ref (mm 11), .int (mf 25), .int (mf 26), .ref (mm 12), .ref (mm 13), .int (mf 29), .ref (mm 14), .ref (mm 15), .ref (mm 16)]))] H := hP
        replace hD : va_D A [((mm 5), .inl (k 0, 409, .inl f_395)), ((mm 4), .inl (k 0, 900, .inl tf)), ((mm 0), .inr (7, [.int (mf 0), .ref (mm 1), .ref (mm 2), .ref (mm 3), .ref (mm 4), .ref (mm 5), .int (mf 6), .int v_399, .int v_400, .int (mf 9), .int v_401, .int v_402, .int v_416, .int v_417, .int (mf 14), .int (mf 15), .int (mf 16), .ref (mm 6), .int (mf 18), .ref (mm 7), .ref (mm 8), .ref (mm 9), .int (mf 22), .ref (mm 10), .ref (mm 11), .int (mf 25), .int (mf 26), .ref (mm 12), .ref (mm 13), .int (mf 29), .ref (mm 14), .ref (mm 15), .ref (mm 16)]))] := hD
        refine lv_aload_n hx hb dX8_readLine_154 rfl (lv_at hl 0 rfl) ?_
        refine va_get (D := D) (ci := 7) (v := .ref (mm 5)) (C := RX8) (T := TX8) (N := 33) hx hb hts inlX8 hown hK hP 2 rfl rfl 5 (by decide) (hts _ mwn_95) (fun _ h9 => h9) rfl dX8_readLine_155 ?_
        refine lv_bipush (v := 7) hx hb dX8_readLine_158 (by decide) ?_
        refine lv_dup2_11 hx hb dX8_readLine_160 rfl rfl ?_
        refine va_iald hx hb hK hP 0 0 rfl rfl (vp_in_c (by decide)) dX8_readLine_161 ?_
        refine lv_topi (fun z_419 ez_419 => ?_)
        refine lv_iconst (v := 1) hx hb dX8_readLine_162 (by decide) ?_
        refine lv_iadd hx hb dX8_readLine_163 ?_
        refine lv_topi (fun z_420 ez_420 => ?_)
        refine va_iast hx hb hK hP hD hS 0 0 rfl rfl (vp_in_c (by decide)) dX8_readLine_164 (fun H locs hP hD hS => ?_)
        replace hP : va_P D vwCl [((mm 5), .inl (k 0, 409, .inl (upd f_395 (7 : Int32).toNatClampNeg z_420))), ((mm 4), .inl (k 0, 900, .inl tf)), ((mm 0), .inr (7, [.int (mf 0), .ref (mm 1), .ref (mm 2), .ref (mm 3), .ref (mm 4), .ref (mm 5), .int (mf 6), .int v_399, .int v_400, .int (mf 9), .int v_401, .int v_402, .int v_416, .int v_417, .int (mf 14), .int (mf 15), .int (mf 16), .ref (mm 6), .int (mf 18), .ref (mm 7), .ref (mm 8), .ref (mm 9), .int (mf 22), .ref (mm 10), .ref (mm 11), .int (mf 25), .int (mf 26), .ref (mm 12), .ref (mm 13), .int (mf 29), .ref (mm 14), .ref (mm 15), .ref (mm 16)]))] H := hP
        replace hD : va_D A [((mm 5), .inl (k 0, 409, .inl (upd f_395 (7 : Int32).toNatClampNeg z_420))), ((mm 4), .inl (k 0, 900, .inl tf)), ((mm 0), .inr (7, [.int (mf 0), .ref (mm 1), .ref (mm 2), .ref (mm 3), .ref (mm 4), .ref (mm 5), .int (mf 6), .int v_399, .int v_400, .int (mf 9), .int v_401, .int v_402, .int v_416, .int v_417, .int (mf 14), .int (mf 15), .int (mf 16), .ref (mm 6), .int (mf 18), .ref (mm 7), .ref (mm 8), .ref (mm 9), .int (mf 22), .ref (mm 10), .ref (mm 11), .int (mf 25), .int (mf 26), .ref (mm 12), .ref (mm 13), .int (mf 29), .ref (mm 14), .ref (mm 15), .ref (mm 16)]))] := hD
        generalize ef_421 : (upd f_395 (7 : Int32).toNatClampNeg z_420) = f_421 at hP hD
        have hK_422 : FR v_416 f_421 := by rw [← ef_421]; exact FR_put (show FR v_416 f_395 from (by first | exact Or.inl (by omega) | exact FR_w hK_396 (by omega) | (rcases (show v_416.toInt ≠ 0 ∨ (mf 12).toInt = 0 from by omega) with q | q <;> first | exact Or.inl q | exact FR_w hK_396 q))) (by decide) (by decide) (by decide)
        exact W.vret hx hb hr (fun t ht hW => ⟨⟨(v_399, v_400, v_401, v_402, v_416, v_417, f_421), rfl, ⟨(show 0 ≤ v_399.toInt ∧ v_399.toInt ≤ 900 from ⟨by omega, by omega⟩), (show 0 ≤ v_400.toInt ∧ v_400.toInt ≤ 900 from ⟨by omega, by omega⟩), (show v_399.toInt ≤ v_400.toInt from by omega), (show v_400.toInt ≤ (mf 9).toInt from by omega), (show v_401.toInt = 13 ∨ v_399.toInt < v_400.toInt from by omega), (show v_416.toInt ≠ 0 ∨ (mf 7).toInt < v_399.toInt from by omega), (show FR v_416 f_421 from hK_422)⟩, by rw [ht]; exact hP.sub [2, 1, 0] rfl, hD.sub [2, 1, 0] (by decide) rfl⟩, hS.F ht⟩) hS.2.2 dX8_readLine_165
  · have c_2 : r_1.toInt ≠ 0 := ti_ne c_2
    have qc_2 : r_1 = 1 := ti_of (show r_1.toInt = 1 from by omega)
    refine lv_aload_n hx hb dX8_readLine_8 rfl (lv_at hl 0 rfl) ?_
    refine kV_uvs (q0 := 0) (As := []) (rest := []) (wr := []) ⟨hx, hb, hml, hown, hts⟩ (s_M_readRoof l D k ak av _ mf tf ef _ (show 0 ≤ (mf 7).toInt ∧ (mf 7).toInt ≤ 900 from ⟨by omega, by omega⟩) (show 0 ≤ (mf 8).toInt ∧ (mf 8).toInt ≤ 900 from ⟨by omega, by omega⟩) (show 0 ≤ (mf 9).toInt ∧ (mf 9).toInt ≤ 900 from ⟨by omega, by omega⟩) (show (mf 7).toInt ≤ (mf 8).toInt from by omega) (show (mf 8).toInt ≤ (mf 9).toInt from by omega) (show (mf 10).toInt = 13 ∨ (mf 7).toInt < (mf 8).toInt from by omega) (show (mf 12).toInt = 0 from by omega) (show FR (mf 12) ef from w_fr)) (gV mwn_327 mwn_328 mwn_329 mwn_5 mwn_330) hdn_yX8_readRoof rfl rfl ⟨Nat.le_of_ble_eq_true rfl, Nat.le_of_ble_eq_true rfl⟩ hK hN0 hW0 hS hP hD hS hA [0, 1, 2] [] rfl rfl (by decide) (by decide) (by decide) rfl rfl rfl rfl hl.1 rfl (Nat.le_of_ble_eq_true rfl) dX8_readLine_9 ⟨Nat.le_of_ble_eq_true rfl, Nat.le_of_ble_eq_true rfl⟩ (fun u_424 H locs hw hP hD hS => ?_)
    obtain ⟨v_425, v_426, v_427, v_428, v_429, v_430, v_431⟩ := u_424
    obtain ⟨h_432, h_433, h_434, h_435, h_436, h_437, h_438⟩ := hw
    replace h_432 : 0 ≤ v_425.toInt ∧ v_425.toInt ≤ 900 := h_432
    replace h_433 : 0 ≤ v_426.toInt ∧ v_426.toInt ≤ 900 := h_433
    replace h_434 : v_425.toInt ≤ v_426.toInt := h_434
    replace h_435 : v_426.toInt ≤ (mf 9).toInt := h_435
    replace h_436 : v_427.toInt = 13 ∨ v_425.toInt < v_426.toInt := h_436
    replace h_437 : (mf 7).toInt ≤ v_425.toInt := h_437
    replace h_438 : FR v_429 v_431 := h_438
    replace hP : va_P D vwCl [((mm 0), .inr (7, [.int (mf 0), .ref (mm 1), .ref (mm 2), .ref (mm 3), .ref (mm 4), .ref (mm 5), .int (mf 6), .int v_425, .int v_426, .int (mf 9), .int v_427, .int v_428, .int v_429, .int v_430, .int (mf 14), .int (mf 15), .int (mf 16), .ref (mm 6), .int (mf 18), .ref (mm 7), .ref (mm 8), .ref (mm 9), .int (mf 22), .ref (mm 10), .ref (mm 11), .int (mf 25), .int (mf 26), .ref (mm 12), .ref (mm 13), .int (mf 29), .ref (mm 14), .ref (mm 15), .ref (mm 16)])), ((mm 4), .inl (k 0, 900, .inl tf)), ((mm 5), .inl (k 0, 409, .inl v_431))] H := hP
    replace hD : va_D A [((mm 0), .inr (7, [.int (mf 0), .ref (mm 1), .ref (mm 2), .ref (mm 3), .ref (mm 4), .ref (mm 5), .int (mf 6), .int v_425, .int v_426, .int (mf 9), .int v_427, .int v_428, .int v_429, .int v_430, .int (mf 14), .int (mf 15), .int (mf 16), .ref (mm 6), .int (mf 18), .ref (mm 7), .ref (mm 8), .ref (mm 9), .int (mf 22), .ref (mm 10), .ref (mm 11), .int (mf 25), .int (mf 26), .ref (mm 12), .ref (mm 13), .int (mf 29), .ref (mm 14), .ref (mm 15), .ref (mm 16)])), ((mm 4), .inl (k 0, 900, .inl tf)), ((mm 5), .inl (k 0, 409, .inl v_431))] := hD
    refine lv_goto (tgt := 140) hx hb dX8_readLine_12 (by decide) ?_
    refine lv_aload_n hx hb dX8_readLine_140 rfl (lv_at hl 0 rfl) ?_
    refine lv_bipush (v := 12) hx hb dX8_readLine_141 (by decide) ?_
    refine kV_uis (q0 := 0) (As := [.int 12]) (rest := []) (wr := [((mm 5), .inl (k 0, 409, .inl v_431))]) ⟨hx, hb, hml, hown, hts⟩ (s_M_eats l D k ak av _ (va_seli [(mf 0), 0, 0, 0, 0, 0, (mf 6), v_425, v_426, (mf 9), v_427, v_428, v_429, v_430, (mf 14), (mf 15), (mf 16), 0, (mf 18), 0, 0, 0, (mf 22), 0, 0, (mf 25), (mf 26), 0, 0, (mf 29)]) tf 12 _ (show 0 ≤ v_425.toInt ∧ v_425.toInt ≤ 900 from ⟨by omega, by omega⟩) (show 0 ≤ v_426.toInt ∧ v_426.toInt ≤ 900 from ⟨by omega, by omega⟩) (show 0 ≤ (mf 9).toInt ∧ (mf 9).toInt ≤ 900 from ⟨by omega, by omega⟩) (show v_425.toInt ≤ v_426.toInt from by omega) (show v_426.toInt ≤ (mf 9).toInt from by omega) (show v_427.toInt = 13 ∨ v_425.toInt < v_426.toInt from by omega)) (gV mwn_343 mwn_344 mwn_345 mwn_5 mwn_346) hdn_yX8_eats rfl rfl ⟨Nat.le_of_ble_eq_true rfl, Nat.le_of_ble_eq_true rfl⟩ hK hN0 hW0 hS hP hD hS hA [0, 1] [2] rfl rfl (by decide) (by decide) (by decide) rfl rfl rfl rfl hl.1 rfl (Nat.le_of_ble_eq_true rfl) dX8_readLine_143 ⟨Nat.le_of_ble_eq_true rfl, Nat.le_of_ble_eq_true rfl⟩ (fun r_439 u_440 H locs hw hP hD hS => ?_)
    obtain ⟨v_441, v_442, v_443, v_444⟩ := u_440
    obtain ⟨hr_439, h_445, h_446, h_447, h_448, h_449, h_450⟩ := hw
    replace h_445 : 0 ≤ v_441.toInt ∧ v_441.toInt ≤ 900 := h_445
    replace h_446 : 0 ≤ v_442.toInt ∧ v_442.toInt ≤ 900 := h_446
    replace h_447 : v_441.toInt ≤ v_442.toInt := h_447
    replace h_448 : v_442.toInt ≤ (mf 9).toInt := h_448
    replace h_449 : v_443.toInt = 13 ∨ v_441.toInt < v_442.toInt := h_449
    replace h_450 : v_425.toInt ≤ v_441.toInt := h_450
    replace hP : va_P D vwCl [((mm 5), .inl (k 0, 409, .inl v_431)), ((mm 0), .inr (7, [.int (mf 0), .ref (mm 1), .ref (mm 2), .ref (mm 3), .ref (mm 4), .ref (mm 5), .int (mf 6), .int v_441, .int v_442, .int (mf 9), .int v_443, .int v_444, .int v_429, .int v_430, .int (mf 14), .int (mf 15), .int (mf 16), .ref (mm 6), .int (mf 18), .ref (mm 7), .ref (mm 8), .ref (mm 9), .int (mf 22), .ref (mm 10), .ref (mm 11), .int (mf 25), .int (mf 26), .ref (mm 12), .ref (mm 13), .int (mf 29), .ref (mm 14), .ref (mm 15), .ref (mm 16)])), ((mm 4), .inl (k 0, 900, .inl tf))] H := hP
    replace hD : va_D A [((mm 5), .inl (k 0, 409, .inl v_431)), ((mm 0), .inr (7, [.int (mf 0), .ref (mm 1), .ref (mm 2), .ref (mm 3), .ref (mm 4), .ref (mm 5), .int (mf 6), .int v_441, .int v_442, .int (mf 9), .int v_443, .int v_444, .int v_429, .int v_430, .int (mf 14), .int (mf 15), .int (mf 16), .ref (mm 6), .int (mf 18), .ref (mm 7), .ref (mm 8), .ref (mm 9), .int (mf 22), .ref (mm 10), .ref (mm 11), .int (mf 25), .int (mf 26), .ref (mm 12), .ref (mm 13), .int (mf 29), .ref (mm 14), .ref (mm 15), .ref (mm 16)])), ((mm 4), .inl (k 0, 900, .inl tf))] := hD
    replace hr_439 : r_439.toInt = 0 ∨ (r_439.toInt = 1 ∧ v_429.toInt = 0 ∧ v_427.toInt = 12 ∧ v_426.toInt ≤ v_441.toInt) := hr_439
    refine lv_if_ne (tgt := 154) hx hb dX8_readLine_146 (by decide) (fun c_451 => ?_) (fun c_451 => ?_)
    · have c_451 : r_439.toInt ≠ 0 := ti_ne c_451
      have qc_451 : r_439 = 1 := ti_of (show r_439.toInt = 1 from by omega)
      refine lv_aload_n hx hb dX8_readLine_154 rfl (lv_at hl 0 rfl) ?_
      refine va_get (D := D) (ci := 7) (v := .ref (mm 5)) (C := RX8) (T := TX8) (N := 33) hx hb hts inlX8 hown hK hP 1 rfl rfl 5 (by decide) (hts _ mwn_95) (fun _ h9 => h9) rfl dX8_readLine_155 ?_
      refine lv_bipush (v := 7) hx hb dX8_readLine_158 (by decide) ?_
      refine lv_dup2_11 hx hb dX8_readLine_160 rfl rfl ?_
      refine va_iald hx hb hK hP 0 0 rfl rfl (vp_in_c (by decide)) dX8_readLine_161 ?_
      refine lv_topi (fun z_452 ez_452 => ?_)
      refine lv_iconst (v := 1) hx hb dX8_readLine_162 (by decide) ?_
      refine lv_iadd hx hb dX8_readLine_163 ?_
      refine lv_topi (fun z_453 ez_453 => ?_)
      refine va_iast hx hb hK hP hD hS 0 0 rfl rfl (vp_in_c (by decide)) dX8_readLine_164 (fun H locs hP hD hS => ?_)
      replace hP : va_P D vwCl [((mm 5), .inl (k 0, 409, .inl (upd v_431 (7 : Int32).toNatClampNeg z_453))), ((mm 0), .inr (7, [.int (mf 0), .ref (mm 1), .ref (mm 2), .ref (mm 3), .ref (mm 4), .ref (mm 5), .int (mf 6), .int v_441, .int v_442, .int (mf 9), .int v_443, .int v_444, .int v_429, .int v_430, .int (mf 14), .int (mf 15), .int (mf 16), .ref (mm 6), .int (mf 18), .ref (mm 7), .ref (mm 8), .ref (mm 9), .int (mf 22), .ref (mm 10), .ref (mm 11), .int (mf 25), .int (mf 26), .ref (mm 12), .ref (mm 13), .int (mf 29), .ref (mm 14), .ref (mm 15), .ref (mm 16)])), ((mm 4), .inl (k 0, 900, .inl tf))] H := hP
      replace hD : va_D A [((mm 5), .inl (k 0, 409, .inl (upd v_431 (7 : Int32).toNatClampNeg z_453))), ((mm 0), .inr (7, [.int (mf 0), .ref (mm 1), .ref (mm 2), .ref (mm 3), .ref (mm 4), .ref (mm 5), .int (mf 6), .int v_441, .int v_442, .int (mf 9), .int v_443, .int v_444, .int v_429, .int v_430, .int (mf 14), .int (mf 15), .int (mf 16), .ref (mm 6), .int (mf 18), .ref (mm 7), .ref (mm 8), .ref (mm 9), .int (mf 22), .ref (mm 10), .ref (mm 11), .int (mf 25), .int (mf 26), .ref (mm 12), .ref (mm 13), .int (mf 29), .ref (mm 14), .ref (mm 15), .ref (mm 16)])), ((mm 4), .inl (k 0, 900, .inl tf))] := hD
      generalize ef_454 : (upd v_431 (7 : Int32).toNatClampNeg z_453) = f_454 at hP hD
      have hK_455 : FR v_429 f_454 := by rw [← ef_454]; exact FR_put (show FR v_429 v_431 from h_438) (by decide) (by decide) (by decide)
      exact W.vret hx hb hr (fun t ht hW => ⟨⟨(v_441, v_442, v_443, v_444, v_429, v_430, f_454), rfl, ⟨(show 0 ≤ v_441.toInt ∧ v_441.toInt ≤ 900 from ⟨by omega, by omega⟩), (show 0 ≤ v_442.toInt ∧ v_442.toInt ≤ 900 from ⟨by omega, by omega⟩), (show v_441.toInt ≤ v_442.toInt from by omega), (show v_442.toInt ≤ (mf 9).toInt from by omega), (show v_443.toInt = 13 ∨ v_441.toInt < v_442.toInt from by omega), (show v_429.toInt ≠ 0 ∨ (mf 7).toInt < v_441.toInt from by omega), (show FR v_429 f_454 from hK_455)⟩, by rw [ht]; exact hP.sub [1, 2, 0] rfl, hD.sub [1, 2, 0] (by decide) rfl⟩, hS.F ht⟩) hS.2.2 dX8_readLine_165
    · have c_451 : r_439.toInt = 0 := ti_eq c_451
      have qc_451 : r_439 = 0 := ti_of (show r_439.toInt = 0 from by omega)
      refine lv_aload_n hx hb dX8_readLine_149 rfl (lv_at hl 0 rfl) ?_
      refine lv_iconst (v := 2) hx hb dX8_readLine_150 (by decide) ?_
      refine kV_uv (q0 := 0) (As := [.int 2]) (rest := []) (wr := [((mm 5), .inl (k 0, 409, .inl v_431)), ((mm 4), .inl (k 0, 900, .inl tf))]) ⟨hx, hb, hml, hown, hts⟩ (s_M_fails l D k _ (va_seli [(mf 0), 0, 0, 0, 0, 0, (mf 6), v_441, v_442, (mf 9), v_443, v_444, v_429, v_430, (mf 14), (mf 15), (mf 16), 0, (mf 18), 0, 0, 0, (mf 22), 0, 0, (mf 25), (mf 26), 0, 0, (mf 29)]) 2 _ (show 1 ≤ (2 : Int32).toInt ∧ (2 : Int32).toInt ≤ 4 from ⟨by decide, by decide⟩)) (gV mwn_331 mwn_332 mwn_333 mwn_5 mwn_334) hdn_yX8_fails rfl rfl ⟨Nat.le_of_ble_eq_true rfl, Nat.le_of_ble_eq_true rfl⟩ hK hN0 hP hD hS hA [1] [0, 2] rfl rfl (by decide) (by decide) (by decide) rfl rfl rfl rfl hl.1 rfl (Nat.le_of_ble_eq_true rfl) dX8_readLine_151 ⟨Nat.le_of_ble_eq_true rfl, Nat.le_of_ble_eq_true rfl⟩ (fun u_457 H locs hw hP hD hS => ?_)
      obtain ⟨v_458, v_459⟩ := u_457
      have h_460 := hw
      replace h_460 : v_458.toInt ≠ 0 := h_460
      replace hP : va_P D vwCl [((mm 5), .inl (k 0, 409, .inl v_431)), ((mm 4), .inl (k 0, 900, .inl tf)), ((mm 0), .inr (7, [.int (mf 0), .ref (mm 1), .ref (mm 2), .ref (mm 3), .ref (mm 4), .ref (mm 5), .int (mf 6), .int v_441, .int v_442, .int (mf 9), .int v_443, .int v_444, .int v_458, .int v_459, .int (mf 14), .int (mf 15), .int (mf 16), .ref (mm 6), .int (mf 18), .ref (mm 7), .ref (mm 8), .ref (mm 9), .int (mf 22), .ref (mm 10), .ref (mm 11), .int (mf 25), .int (mf 26), .ref (mm 12), .ref (mm 13), .int (mf 29), .ref (mm 14), .ref (mm 15), .ref (mm 16)]))] H := hP
      replace hD : va_D A [((mm 5), .inl (k 0, 409, .inl v_431)), ((mm 4), .inl (k 0, 900, .inl tf)), ((mm 0), .inr (7, [.int (mf 0), .ref (mm 1), .ref (mm 2), .ref (mm 3), .ref (mm 4), .ref (mm 5), .int (mf 6), .int v_441, .int v_442, .int (mf 9), .int v_443, .int v_444, .int v_458, .int v_459, .int (mf 14), .int (mf 15), .int (mf 16), .ref (mm 6), .int (mf 18), .ref (mm 7), .ref (mm 8), .ref (mm 9), .int (mf 22), .ref (mm 10), .ref (mm 11), .int (mf 25), .int (mf 26), .ref (mm 12), .ref (mm 13), .int (mf 29), .ref (mm 14), .ref (mm 15), .ref (mm 16)]))] := hD
      refine lv_aload_n hx hb dX8_readLine_154 rfl (lv_at hl 0 rfl) ?_
      refine va_get (D := D) (ci := 7) (v := .ref (mm 5)) (C := RX8) (T := TX8) (N := 33) hx hb hts inlX8 hown hK hP 2 rfl rfl 5 (by decide) (hts _ mwn_95) (fun _ h9 => h9) rfl dX8_readLine_155 ?_
      refine lv_bipush (v := 7) hx hb dX8_readLine_158 (by decide) ?_
      refine lv_dup2_11 hx hb dX8_readLine_160 rfl rfl ?_
      refine va_iald hx hb hK hP 0 0 rfl rfl (vp_in_c (by decide)) dX8_readLine_161 ?_
      refine lv_topi (fun z_461 ez_461 => ?_)
      refine lv_iconst (v := 1) hx hb dX8_readLine_162 (by decide) ?_
      refine lv_iadd hx hb dX8_readLine_163 ?_
      refine lv_topi (fun z_462 ez_462 => ?_)
      refine va_iast hx hb hK hP hD hS 0 0 rfl rfl (vp_in_c (by decide)) dX8_readLine_164 (fun H locs hP hD hS => ?_)
      replace hP : va_P D vwCl [((mm 5), .inl (k 0, 409, .inl (upd v_431 (7 : Int32).toNatClampNeg z_462))), ((mm 4), .inl (k 0, 900, .inl tf)), ((mm 0), .inr (7, [.int (mf 0), .ref (mm 1), .ref (mm 2), .ref (mm 3), .ref (mm 4), .ref (mm 5), .int (mf 6), .int v_441, .int v_442, .int (mf 9), .int v_443, .int v_444, .int v_458, .int v_459, .int (mf 14), .int (mf 15), .int (mf 16), .ref (mm 6), .int (mf 18), .ref (mm 7), .ref (mm 8), .ref (mm 9), .int (mf 22), .ref (mm 10), .ref (mm 11), .int (mf 25), .int (mf 26), .ref (mm 12), .ref (mm 13), .int (mf 29), .ref (mm 14), .ref (mm 15), .ref (mm 16)]))] H := hP
      replace hD : va_D A [((mm 5), .inl (k 0, 409, .inl (upd v_431 (7 : Int32).toNatClampNeg z_462))), ((mm 4), .inl (k 0, 900, .inl tf)), ((mm 0), .inr (7, [.int (mf 0), .ref (mm 1), .ref (mm 2), .ref (mm 3), .ref (mm 4), .ref (mm 5), .int (mf 6), .int v_441, .int v_442, .int (mf 9), .int v_443, .int v_444, .int v_458, .int v_459, .int (mf 14), .int (mf 15), .int (mf 16), .ref (mm 6), .int (mf 18), .ref (mm 7), .ref (mm 8), .ref (mm 9), .int (mf 22), .ref (mm 10), .ref (mm 11), .int (mf 25), .int (mf 26), .ref (mm 12), .ref (mm 13), .int (mf 29), .ref (mm 14), .ref (mm 15), .ref (mm 16)]))] := hD
      generalize ef_463 : (upd v_431 (7 : Int32).toNatClampNeg z_462) = f_463 at hP hD
      have hK_464 : FR v_458 f_463 := by rw [← ef_463]; exact FR_put (show FR v_458 v_431 from (by first | exact Or.inl (by omega) | exact FR_w h_438 (by omega) | (rcases (show v_458.toInt ≠ 0 ∨ v_429.toInt = 0 from by omega) with q | q <;> first | exact Or.inl q | exact FR_w h_438 q))) (by decide) (by decide) (by decide)
      exact W.vret hx hb hr (fun t ht hW => ⟨⟨(v_441, v_442, v_443, v_444, v_458, v_459, f_463), rfl, ⟨(show 0 ≤ v_441.toInt ∧ v_441.toInt ≤ 900 from ⟨by omega, by omega⟩), (show 0 ≤ v_442.toInt ∧ v_442.toInt ≤ 900 from ⟨by omega, by omega⟩), (show v_441.toInt ≤ v_442.toInt from by omega), (show v_442.toInt ≤ (mf 9).toInt from by omega), (show v_443.toInt = 13 ∨ v_441.toInt < v_442.toInt from by omega), (show v_458.toInt ≠ 0 ∨ (mf 7).toInt < v_441.toInt from by omega), (show FR v_458 f_463 from hK_464)⟩, by rw [ht]; exact hP.sub [2, 1, 0] rfl, hD.sub [2, 1, 0] (by decide) rfl⟩, hS.F ht⟩) hS.2.2 dX8_readLine_165
set_option maxHeartbeats 4000000 in
set_option maxRecDepth 100000 in
theorem s_M_plain_fresh (l : Launch) (D : va_G) (k : Nat → ClassId) (mm : Nat → Nat) (ef : Nat → Int32) (sz : Nat) : Met l yX8_plain (Cond.code yX8_plain cX8_plain 2 none :: wsL_law) ({ frames := 0, cells := 0, slots := 0, locals := 0 } : Room) (va_Pc [.ref (mm 5)] (pu D k sz [((mm 5), .inl (k 0, 409, .inl ef))])) (va_Qv (fun uu : Nat → Int32 => (FR (0 : Int32) uu)) (qu D (va_A [((mm 5), .inl (k 0, 409, .inl ef))] sz) (fun uu : Nat → Int32 => [((mm 5), .inl (k 0, 409, .inl uu))])) (va_A [((mm 5), .inl (k 0, 409, .inl ef))] sz)) 0 0 (va_A [((mm 5), .inl (k 0, 409, .inl ef))] sz) := by
  refine Met.ofW (cc := cX8_plain) (maxL := 2) (ret := none) (by decide) rfl ?_
  intro p e s m args below meth c s₁ B hml hv
  obtain ⟨rfl, hsz, hP, hK, hD0, hN0⟩ := hv
  have hx := B.exec
  have hb := B.bytes
  have hr := B.returns
  have hts : ∀ w ∈ wsL_law, w.before _ s = true := fun w h => atoms_spec (ws := Cond.code yX8_plain cX8_plain 2 none :: wsL_law) B.pre w (List.mem_cons_of_mem _ h)
  have hown : s.vm.findClass RX8 = some m.cls := findClass_of_methodNamed B.named
  have hlocks := B.notSynchronized
  subst hsz
  have hD := hD0.self (sz := s.heap.size)
  generalize hAe : va_A [((mm 5), .inl (k 0, 409, .inl ef))] s.heap.size = A at hD ⊢
  have hA : ∀ q : Nat, s.heap.size ≤ q → A q := fun q h => by rw [← hAe]; exact Or.inr h
  have hS : va_S A s.heap s.heap [] := va_S.rf
  replace hP : va_P D vwCl [((mm 5), .inl (k 0, 409, .inl ef))] s.heap := hP
  have hl := lv_entry ([.ref (mm 5)]) (n := 2) (Nat.le_of_ble_eq_true rfl)
  rw [lg_entry_eq]
  generalize (lg_sl ([.ref (mm 5)]) ++ List.replicate (2 - (lg_sl ([.ref (mm 5)])).length) Slot.unset).toArray = ls at hl ⊢
  replace hl : lv_has ls 2 [(0, .ref (mm 5))] := hl
  refine lv_iconst (v := 0) hx hb dX8_plain_0 (by decide) ?_
  refine lv_istore_n (lv' := [(1, .int 0), (0, .ref (mm 5))]) hx hb dX8_plain_1 rfl hl (by decide) rfl (fun ls hl => ?_)
  refine W_loop (σ := Int32 × (Nat → Int32)) (fun xx H locs ls => (0 ≤ xx.1.toInt ∧ xx.1.toInt ≤ 409) ∧ (ZK xx.1 xx.2) ∧ va_P D vwCl [((mm 5), .inl (k 0, 409, .inl xx.2))] H ∧ va_D A [((mm 5), .inl (k 0, 409, .inl xx.2))] ∧ va_S A s.heap H locs ∧ lv_has ls 2 [(1, .int xx.1), (0, .ref (mm 5))]) (fun xx => (409 - xx.1.toInt).toNat) ?_ (0, ef) _ _ ls ⟨(show 0 ≤ (0 : Int32).toInt ∧ (0 : Int32).toInt ≤ 409 from ⟨by decide, by decide⟩), (show ZK (0 : Int32) ef from ZK_0), hP.sub [0] rfl, hD.sub [0] (by decide) rfl, hS, lv_sub hl [0, 1] rfl⟩
  intro xx H locs ls hI ih2
  obtain ⟨i_1, f_2⟩ := xx
  obtain ⟨h_3, h_4, hP, hD, hS, hl⟩ := hI
  replace h_3 : 0 ≤ i_1.toInt ∧ i_1.toInt ≤ 409 := h_3
  replace h_4 : ZK i_1 f_2 := h_4
  obtain ⟨h_3a, h_3b⟩ := h_3
  replace hP : va_P D vwCl [((mm 5), .inl (k 0, 409, .inl f_2))] H := hP
  replace hD : va_D A [((mm 5), .inl (k 0, 409, .inl f_2))] := hD
  replace hl : lv_has ls 2 [(1, .int i_1), (0, .ref (mm 5))] := hl
  refine lv_iload_n hx hb dX8_plain_2 rfl (lv_at hl 0 rfl) ?_
  refine lv_sipush (v := 409) hx hb dX8_plain_3 (by decide) ?_
  refine lv_icmp_ge (tgt := 19) hx hb dX8_plain_6 (by decide) (fun c_5 => ?_) (fun c_5 => ?_)
  · have c_5 : 409 ≤ i_1.toInt := ti_le c_5
    have qc_5 : i_1 = 409 := ti_of (show i_1.toInt = 409 from by omega)
    refine lv_aload_n hx hb dX8_plain_19 rfl (lv_at hl 1 rfl) ?_
    refine lv_iconst (v := 2) hx hb dX8_plain_20 (by decide) ?_
    refine lv_iconst (v := 3) hx hb dX8_plain_21 (by decide) ?_
    refine va_iast hx hb hK hP hD hS 0 0 rfl rfl (vp_in_c (by decide)) dX8_plain_22 (fun H locs hP hD hS => ?_)
    replace hP : va_P D vwCl [((mm 5), .inl (k 0, 409, .inl (upd f_2 (2 : Int32).toNatClampNeg 3)))] H := hP
    replace hD : va_D A [((mm 5), .inl (k 0, 409, .inl (upd f_2 (2 : Int32).toNatClampNeg 3)))] := hD
    generalize ef_6 : (upd f_2 (2 : Int32).toNatClampNeg 3) = f_6 at hP hD
    refine lv_aload_n hx hb dX8_plain_23 rfl (lv_at hl 1 rfl) ?_
    refine lv_iconst (v := 3) hx hb dX8_plain_24 (by decide) ?_
    refine lv_bipush (v := 8) hx hb dX8_plain_25 (by decide) ?_
    refine va_iast hx hb hK hP hD hS 0 0 rfl rfl (vp_in_c (by decide)) dX8_plain_27 (fun H locs hP hD hS => ?_)
    replace hP : va_P D vwCl [((mm 5), .inl (k 0, 409, .inl (upd f_6 (3 : Int32).toNatClampNeg 8)))] H := hP
    replace hD : va_D A [((mm 5), .inl (k 0, 409, .inl (upd f_6 (3 : Int32).toNatClampNeg 8)))] := hD
    generalize ef_7 : (upd f_6 (3 : Int32).toNatClampNeg 8) = f_7 at hP hD
    refine lv_aload_n hx hb dX8_plain_28 rfl (lv_at hl 1 rfl) ?_
    refine lv_iconst (v := 4) hx hb dX8_plain_29 (by decide) ?_
    refine lv_iconst (v := 4) hx hb dX8_plain_30 (by decide) ?_
    refine va_iast hx hb hK hP hD hS 0 0 rfl rfl (vp_in_c (by decide)) dX8_plain_31 (fun H locs hP hD hS => ?_)
    replace hP : va_P D vwCl [((mm 5), .inl (k 0, 409, .inl (upd f_7 (4 : Int32).toNatClampNeg 4)))] H := hP
    replace hD : va_D A [((mm 5), .inl (k 0, 409, .inl (upd f_7 (4 : Int32).toNatClampNeg 4)))] := hD
    generalize ef_8 : (upd f_7 (4 : Int32).toNatClampNeg 4) = f_8 at hP hD
    refine lv_aload_n hx hb dX8_plain_32 rfl (lv_at hl 1 rfl) ?_
    refine lv_iconst (v := 5) hx hb dX8_plain_33 (by decide) ?_
    refine lv_iconst (v := 4) hx hb dX8_plain_34 (by decide) ?_
    refine va_iast hx hb hK hP hD hS 0 0 rfl rfl (vp_in_c (by decide)) dX8_plain_35 (fun H locs hP hD hS => ?_)
    replace hP : va_P D vwCl [((mm 5), .inl (k 0, 409, .inl (upd f_8 (5 : Int32).toNatClampNeg 4)))] H := hP
    replace hD : va_D A [((mm 5), .inl (k 0, 409, .inl (upd f_8 (5 : Int32).toNatClampNeg 4)))] := hD
    generalize ef_9 : (upd f_8 (5 : Int32).toNatClampNeg 4) = f_9 at hP hD
    exact W.vret hx hb hr (fun t ht hW => ⟨⟨(f_9), rfl, (show FR (0 : Int32) f_9 from (by subst_vars; exact ZK_FR h_4 (by omega))), by rw [ht]; exact hP.sub [0] rfl, hD.sub [0] (by decide) rfl⟩, hS.F ht⟩) hS.2.2 dX8_plain_36
  · have c_5 : i_1.toInt < 409 := ti_nle c_5
    refine lv_aload_n hx hb dX8_plain_9 rfl (lv_at hl 1 rfl) ?_
    refine lv_iload_n hx hb dX8_plain_10 rfl (lv_at hl 0 rfl) ?_
    refine lv_iconst (v := 0) hx hb dX8_plain_11 (by decide) ?_
    refine va_iast hx hb hK hP hD hS 0 0 rfl rfl (vp_in_o (by omega) (by omega)) dX8_plain_12 (fun H locs hP hD hS => ?_)
    replace hP : va_P D vwCl [((mm 5), .inl (k 0, 409, .inl (upd f_2 i_1.toNatClampNeg 0)))] H := hP
    replace hD : va_D A [((mm 5), .inl (k 0, 409, .inl (upd f_2 i_1.toNatClampNeg 0)))] := hD
    generalize ef_10 : (upd f_2 i_1.toNatClampNeg 0) = f_10 at hP hD
    obtain ⟨z_11, ez_11⟩ : ∃ y : Int32, y = i_1 + 1 := ⟨_, rfl⟩
    have tz_11 : z_11.toInt = i_1.toInt + 1 := by rw [ez_11]; exact ti_addc (by decide) (by omega) (by omega)
    refine lv_iinc (v := z_11) (lv' := [(1, .int z_11), (0, .ref (mm 5))]) hx hb dX8_plain_13 hl (k := 0) rfl (ez_11.symm) (by decide) rfl (fun ls hl => ?_)
    refine lv_goto (tgt := 2) hx hb dX8_plain_16 (by decide) ?_
    exact ih2 (z_11, f_10) _ _ ls (by show (409 - z_11.toInt).toNat < (409 - i_1.toInt).toNat; omega) ⟨(show 0 ≤ z_11.toInt ∧ z_11.toInt ≤ 409 from ⟨by omega, by omega⟩), (show ZK z_11 f_10 from (by rw [← ef_10]; exact ZK_up h_4 (by omega) (by omega))), hP.sub [0] rfl, hD.sub [0] (by decide) rfl, hS, lv_sub hl [0, 1] rfl⟩
