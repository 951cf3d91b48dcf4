theorem dJ6_numberOfTrailingZeros_0f7a4_0 : decode cJ6_numberOfTrailingZeros_0f7a4 0 = .ok (.iload_n 0, 1) := by decide +kernel
theorem dJ6_numberOfTrailingZeros_0f7a4_1 : decode cJ6_numberOfTrailingZeros_0f7a4 1 = .ok (.iconst (-1), 1) := by decide +kernel
theorem dJ6_numberOfTrailingZeros_0f7a4_2 : decode cJ6_numberOfTrailingZeros_0f7a4 2 = .ok (.ixor, 1) := by decide +kernel
theorem dJ6_numberOfTrailingZeros_0f7a4_3 : decode cJ6_numberOfTrailingZeros_0f7a4 3 = .ok (.iload_n 0, 1) := by decide +kernel
theorem dJ6_numberOfTrailingZeros_0f7a4_4 : decode cJ6_numberOfTrailingZeros_0f7a4 4 = .ok (.iconst 1, 1) := by decide +kernel
theorem dJ6_numberOfTrailingZeros_0f7a4_5 : decode cJ6_numberOfTrailingZeros_0f7a4 5 = .ok (.isub, 1) := by decide +kernel
theorem dJ6_numberOfTrailingZeros_0f7a4_6 : decode cJ6_numberOfTrailingZeros_0f7a4 6 = .ok (.iand, 1) := by decide +kernel
theorem dJ6_numberOfTrailingZeros_0f7a4_7 : decode cJ6_numberOfTrailingZeros_0f7a4 7 = .ok (.istore_n 0, 1) := by decide +kernel
theorem dJ6_numberOfTrailingZeros_0f7a4_8 : decode cJ6_numberOfTrailingZeros_0f7a4 8 = .ok (.iload_n 0, 1) := by decide +kernel
theorem dJ6_numberOfTrailingZeros_0f7a4_9 : decode cJ6_numberOfTrailingZeros_0f7a4 9 = .ok (.ifCond .gt 8, 3) := by decide +kernel
theorem dJ6_numberOfTrailingZeros_0f7a4_17 : decode cJ6_numberOfTrailingZeros_0f7a4 17 = .ok (.iconst 1, 1) := by decide +kernel
theorem dJ6_numberOfTrailingZeros_0f7a4_18 : decode cJ6_numberOfTrailingZeros_0f7a4 18 = .ok (.istore_n 1, 1) := by decide +kernel
theorem dJ6_numberOfTrailingZeros_0f7a4_19 : decode cJ6_numberOfTrailingZeros_0f7a4 19 = .ok (.iload_n 0, 1) := by decide +kernel
theorem dJ6_numberOfTrailingZeros_0f7a4_20 : decode cJ6_numberOfTrailingZeros_0f7a4 20 = .ok (.ldc_w 264, 3) := by decide +kernel
theorem mw_994 : Cond.constant RJ6 264 (65536) ∈ wsL_law := List.mem_of_getElem? (i := 994) (by decide +kernel)
theorem dJ6_numberOfTrailingZeros_0f7a4_23 : decode cJ6_numberOfTrailingZeros_0f7a4 23 = .ok (.if_icmp .le 11, 3) := by decide +kernel
theorem dJ6_numberOfTrailingZeros_0f7a4_34 : decode cJ6_numberOfTrailingZeros_0f7a4 34 = .ok (.iload_n 0, 1) := by decide +kernel
theorem dJ6_numberOfTrailingZeros_0f7a4_35 : decode cJ6_numberOfTrailingZeros_0f7a4 35 = .ok (.sipush 256, 3) := by decide +kernel
theorem dJ6_numberOfTrailingZeros_0f7a4_38 : decode cJ6_numberOfTrailingZeros_0f7a4 38 = .ok (.if_icmp .le 11, 3) := by decide +kernel
theorem dJ6_numberOfTrailingZeros_0f7a4_49 : decode cJ6_numberOfTrailingZeros_0f7a4 49 = .ok (.iload_n 0, 1) := by decide +kernel
theorem dJ6_numberOfTrailingZeros_0f7a4_50 : decode cJ6_numberOfTrailingZeros_0f7a4 50 = .ok (.bipush 16, 2) := by decide +kernel
theorem dJ6_numberOfTrailingZeros_0f7a4_52 : decode cJ6_numberOfTrailingZeros_0f7a4 52 = .ok (.if_icmp .le 10, 3) := by decide +kernel
theorem dJ6_numberOfTrailingZeros_0f7a4_62 : decode cJ6_numberOfTrailingZeros_0f7a4 62 = .ok (.iload_n 0, 1) := by decide +kernel
theorem dJ6_numberOfTrailingZeros_0f7a4_63 : decode cJ6_numberOfTrailingZeros_0f7a4 63 = .ok (.iconst 4, 1) := by decide +kernel
theorem dJ6_numberOfTrailingZeros_0f7a4_64 : decode cJ6_numberOfTrailingZeros_0f7a4 64 = .ok (.if_icmp .le 10, 3) := by decide +kernel
theorem dJ6_numberOfTrailingZeros_0f7a4_74 : decode cJ6_numberOfTrailingZeros_0f7a4 74 = .ok (.iload_n 1, 1) := by decide +kernel
theorem dJ6_numberOfTrailingZeros_0f7a4_75 : decode cJ6_numberOfTrailingZeros_0f7a4 75 = .ok (.iload_n 0, 1) := by decide +kernel
theorem dJ6_numberOfTrailingZeros_0f7a4_76 : decode cJ6_numberOfTrailingZeros_0f7a4 76 = .ok (.iconst 1, 1) := by decide +kernel
theorem dJ6_numberOfTrailingZeros_0f7a4_77 : decode cJ6_numberOfTrailingZeros_0f7a4 77 = .ok (.iushr, 1) := by decide +kernel
theorem dJ6_numberOfTrailingZeros_0f7a4_78 : decode cJ6_numberOfTrailingZeros_0f7a4 78 = .ok (.iadd, 1) := by decide +kernel
theorem dJ6_numberOfTrailingZeros_0f7a4_79 : decode cJ6_numberOfTrailingZeros_0f7a4 79 = .ok (.ireturn, 1) := by decide +kernel
theorem dJ6_numberOfTrailingZeros_0f7a4_67 : decode cJ6_numberOfTrailingZeros_0f7a4 67 = .ok (.iinc 1 2, 3) := by decide +kernel
theorem dJ6_numberOfTrailingZeros_0f7a4_70 : decode cJ6_numberOfTrailingZeros_0f7a4 70 = .ok (.iload_n 0, 1) := by decide +kernel
theorem dJ6_numberOfTrailingZeros_0f7a4_71 : decode cJ6_numberOfTrailingZeros_0f7a4 71 = .ok (.iconst 2, 1) := by decide +kernel
theorem dJ6_numberOfTrailingZeros_0f7a4_72 : decode cJ6_numberOfTrailingZeros_0f7a4 72 = .ok (.iushr, 1) := by decide +kernel
theorem dJ6_numberOfTrailingZeros_0f7a4_73 : decode cJ6_numberOfTrailingZeros_0f7a4 73 = .ok (.istore_n 0, 1) := by decide +kernel
theorem dJ6_numberOfTrailingZeros_0f7a4_55 : decode cJ6_numberOfTrailingZeros_0f7a4 55 = .ok (.iinc 1 4, 3) := by decide +kernel
theorem dJ6_numberOfTrailingZeros_0f7a4_58 : decode cJ6_numberOfTrailingZeros_0f7a4 58 = .ok (.iload_n 0, 1) := by decide +kernel
theorem dJ6_numberOfTrailingZeros_0f7a4_59 : decode cJ6_numberOfTrailingZeros_0f7a4 59 = .ok (.iconst 4, 1) := by decide +kernel
theorem dJ6_numberOfTrailingZeros_0f7a4_60 : decode cJ6_numberOfTrailingZeros_0f7a4 60 = .ok (.iushr, 1) := by decide +kernel
theorem dJ6_numberOfTrailingZeros_0f7a4_61 : decode cJ6_numberOfTrailingZeros_0f7a4 61 = .ok (.istore_n 0, 1) := by decide +kernel
theorem dJ6_numberOfTrailingZeros_0f7a4_41 : decode cJ6_numberOfTrailingZeros_0f7a4 41 = .ok (.iinc 1 8, 3) := by decide +kernel
theorem dJ6_numberOfTrailingZeros_0f7a4_44 : decode cJ6_numberOfTrailingZeros_0f7a4 44 = .ok (.iload_n 0, 1) := by decide +kernel
theorem dJ6_numberOfTrailingZeros_0f7a4_45 : decode cJ6_numberOfTrailingZeros_0f7a4 45 = .ok (.bipush 8, 2) := by decide +kernel
theorem dJ6_numberOfTrailingZeros_0f7a4_47 : decode cJ6_numberOfTrailingZeros_0f7a4 47 = .ok (.iushr, 1) := by decide +kernel
theorem dJ6_numberOfTrailingZeros_0f7a4_48 : decode cJ6_numberOfTrailingZeros_0f7a4 48 = .ok (.istore_n 0, 1) := by decide +kernel
theorem dJ6_numberOfTrailingZeros_0f7a4_12 : decode cJ6_numberOfTrailingZeros_0f7a4 12 = .ok (.iload_n 0, 1) := by decide +kernel
theorem dJ6_numberOfTrailingZeros_0f7a4_13 : decode cJ6_numberOfTrailingZeros_0f7a4 13 = .ok (.bipush 32, 2) := by decide +kernel
theorem dJ6_numberOfTrailingZeros_0f7a4_15 : decode cJ6_numberOfTrailingZeros_0f7a4 15 = .ok (.iand, 1) := by decide +kernel
theorem dJ6_numberOfTrailingZeros_0f7a4_16 : decode cJ6_numberOfTrailingZeros_0f7a4 16 = .ok (.ireturn, 1) := by decide +kernel
theorem dX2_findBest_0 : decode cX2_findBest 0 = .ok (.aload_n 1, 1) := by decide +kernel
theorem dX2_findBest_1 : decode cX2_findBest 1 = .ok (.invokevirtual 15, 3) := by decide +kernel
theorem mw_983 : Cond.methodLink RX2 15 yX6_thatched ∈ wsL_law := List.mem_of_getElem? (i := 983) (by decide +kernel)
theorem dX2_findBest_4 : decode cX2_findBest 4 = .ok (.istore_n 3, 1) := by decide +kernel
theorem dX2_findBest_5 : decode cX2_findBest 5 = .ok (.aload_n 1, 1) := by decide +kernel
theorem dX2_findBest_6 : decode cX2_findBest 6 = .ok (.invokevirtual 21, 3) := by decide +kernel
theorem mw_984 : Cond.methodLink RX2 21 yX6_leaking ∈ wsL_law := List.mem_of_getElem? (i := 984) (by decide +kernel)
theorem dX2_findBest_9 : decode cX2_findBest 9 = .ok (.istore 4, 2) := by decide +kernel
theorem dX2_findBest_11 : decode cX2_findBest 11 = .ok (.aload_n 0, 1) := by decide +kernel
theorem dX2_findBest_12 : decode cX2_findBest 12 = .ok (.iconst 0, 1) := by decide +kernel
theorem dX2_findBest_13 : decode cX2_findBest 13 = .ok (.putfield 24, 3) := by decide +kernel
theorem mw_982 : Cond.fieldLink RX2 24 "ThatchNext$Mending" "size" "I" ∈ wsL_law := List.mem_of_getElem? (i := 982) (by decide +kernel)
theorem dX2_findBest_16 : decode cX2_findBest 16 = .ok (.iload_n 3, 1) := by decide +kernel
theorem dX2_findBest_17 : decode cX2_findBest 17 = .ok (.ifCond .eq 95, 3) := by decide +kernel
theorem dX2_findBest_112 : decode cX2_findBest 112 = .ok (.return_, 1) := by decide +kernel
theorem dX2_findBest_20 : decode cX2_findBest 20 = .ok (.aload_n 0, 1) := by decide +kernel
theorem dX2_findBest_21 : decode cX2_findBest 21 = .ok (.getfield 24, 3) := by decide +kernel
theorem dX2_findBest_24 : decode cX2_findBest 24 = .ok (.bipush 10, 2) := by decide +kernel
theorem dX2_findBest_26 : decode cX2_findBest 26 = .ok (.if_icmp .ge 86, 3) := by decide +kernel
theorem dX2_findBest_29 : decode cX2_findBest 29 = .ok (.iload_n 3, 1) := by decide +kernel
theorem dX2_findBest_30 : decode cX2_findBest 30 = .ok (.iload 4, 2) := by decide +kernel
theorem dX2_findBest_32 : decode cX2_findBest 32 = .ok (.iand, 1) := by decide +kernel
theorem dX2_findBest_33 : decode cX2_findBest 33 = .ok (.istore 5, 2) := by decide +kernel
theorem dX2_findBest_35 : decode cX2_findBest 35 = .ok (.aload_n 2, 1) := by decide +kernel
theorem dX2_findBest_36 : decode cX2_findBest 36 = .ok (.aload_n 0, 1) := by decide +kernel
theorem dX2_findBest_37 : decode cX2_findBest 37 = .ok (.getfield 24, 3) := by decide +kernel
theorem dX2_findBest_40 : decode cX2_findBest 40 = .ok (.aload_n 0, 1) := by decide +kernel
theorem dX2_findBest_41 : decode cX2_findBest 41 = .ok (.getfield 24, 3) := by decide +kernel
theorem dX2_findBest_44 : decode cX2_findBest 44 = .ok (.iload 5, 2) := by decide +kernel
theorem dX2_findBest_46 : decode cX2_findBest 46 = .ok (.invokestatic 28, 3) := by decide +kernel
theorem mw_985 : Cond.methodLink RX2 28 yJ6_bitCount_0f7a4 ∈ wsL_law := List.mem_of_getElem? (i := 985) (by decide +kernel)
theorem dX2_findBest_49 : decode cX2_findBest 49 = .ok (.iadd, 1) := by decide +kernel
theorem dX2_findBest_50 : decode cX2_findBest 50 = .ok (.invokevirtual 34, 3) := by decide +kernel
theorem hd_yX3_rainsBetween : HD yX3_rainsBetween RX3 2 := by decide +kernel
theorem mw_986 : Cond.methodLink RX2 34 yX3_rainsBetween ∈ wsL_law := List.mem_of_getElem? (i := 986) (by decide +kernel)
theorem mw_987 : Cond.instanceMethod yX3_rainsBetween ∈ wsL_law := List.mem_of_getElem? (i := 987) (by decide +kernel)
theorem mw_988 : Cond.selects RX3 yX3_rainsBetween yX3_rainsBetween ∈ wsL_law := List.mem_of_getElem? (i := 988) (by decide +kernel)
theorem mw_42 : Cond.initialized RX3 ∈ wsL_law := List.mem_of_getElem? (i := 42) (by decide +kernel)
theorem mw_989 : Cond.code yX3_rainsBetween cX3_rainsBetween 5 (some .int) ∈ wsL_law := List.mem_of_getElem? (i := 989) (by decide +kernel)
theorem dX2_findBest_53 : decode cX2_findBest 53 = .ok (.ifCond .le 7, 3) := by decide +kernel
theorem dX2_findBest_60 : decode cX2_findBest 60 = .ok (.iconst 0, 1) := by decide +kernel
theorem dX2_findBest_61 : decode cX2_findBest 61 = .ok (.istore 6, 2) := by decide +kernel
theorem dX2_findBest_63 : decode cX2_findBest 63 = .ok (.iload 6, 2) := by decide +kernel
theorem dX2_findBest_65 : decode cX2_findBest 65 = .ok (.ifCond .eq 8, 3) := by decide +kernel
theorem dX2_findBest_73 : decode cX2_findBest 73 = .ok (.iload_n 3, 1) := by decide +kernel
theorem dX2_findBest_74 : decode cX2_findBest 74 = .ok (.invokestatic 40, 3) := by decide +kernel
theorem hd_yJ6_numberOfTrailingZeros_0f7a4 : HD yJ6_numberOfTrailingZeros_0f7a4 RJ6 1 := by decide +kernel
theorem mw_991 : Cond.methodLink RX2 40 yJ6_numberOfTrailingZeros_0f7a4 ∈ wsL_law := List.mem_of_getElem? (i := 991) (by decide +kernel)
theorem mw_992 : Cond.static yJ6_numberOfTrailingZeros_0f7a4 ∈ wsL_law := List.mem_of_getElem? (i := 992) (by decide +kernel)
theorem mw_993 : Cond.code yJ6_numberOfTrailingZeros_0f7a4 cJ6_numberOfTrailingZeros_0f7a4 2 (some .int) ∈ wsL_law := List.mem_of_getElem? (i := 993) (by decide +kernel)
theorem dX2_findBest_77 : decode cX2_findBest 77 = .ok (.istore 7, 2) := by decide +kernel
theorem dX2_findBest_79 : decode cX2_findBest 79 = .ok (.aload_n 0, 1) := by decide +kernel
theorem dX2_findBest_80 : decode cX2_findBest 80 = .ok (.getfield 9, 3) := by decide +kernel
theorem mw_69 : Cond.fieldLink RX2 9 "ThatchNext$Mending" "order" "[I" ∈ wsL_law := List.mem_of_getElem? (i := 69) (by decide +kernel)
theorem dX2_findBest_83 : decode cX2_findBest 83 = .ok (.aload_n 0, 1) := by decide +kernel
theorem dX2_findBest_84 : decode cX2_findBest 84 = .ok (.getfield 24, 3) := by decide +kernel
theorem dX2_findBest_87 : decode cX2_findBest 87 = .ok (.iload 7, 2) := by decide +kernel
theorem dX2_findBest_89 : decode cX2_findBest 89 = .ok (.iastore, 1) := by decide +kernel
theorem dX2_findBest_90 : decode cX2_findBest 90 = .ok (.iload_n 3, 1) := by decide +kernel
theorem dX2_findBest_91 : decode cX2_findBest 91 = .ok (.iconst 1, 1) := by decide +kernel
theorem dX2_findBest_92 : decode cX2_findBest 92 = .ok (.iload 7, 2) := by decide +kernel
theorem dX2_findBest_94 : decode cX2_findBest 94 = .ok (.ishl, 1) := by decide +kernel
theorem dX2_findBest_95 : decode cX2_findBest 95 = .ok (.iconst (-1), 1) := by decide +kernel
theorem dX2_findBest_96 : decode cX2_findBest 96 = .ok (.ixor, 1) := by decide +kernel
theorem dX2_findBest_97 : decode cX2_findBest 97 = .ok (.iand, 1) := by decide +kernel
theorem dX2_findBest_98 : decode cX2_findBest 98 = .ok (.istore_n 3, 1) := by decide +kernel
theorem dX2_findBest_99 : decode cX2_findBest 99 = .ok (.aload_n 0, 1) := by decide +kernel
theorem dX2_findBest_100 : decode cX2_findBest 100 = .ok (.dup, 1) := by decide +kernel
theorem dX2_findBest_101 : decode cX2_findBest 101 = .ok (.getfield 24, 3) := by decide +kernel
theorem dX2_findBest_104 : decode cX2_findBest 104 = .ok (.iconst 1, 1) := by decide +kernel
theorem dX2_findBest_105 : decode cX2_findBest 105 = .ok (.iadd, 1) := by decide +kernel
theorem dX2_findBest_106 : decode cX2_findBest 106 = .ok (.putfield 24, 3) := by decide +kernel
theorem dX2_findBest_109 : decode cX2_findBest 109 = .ok (.goto (-93), 3) := by decide +kernel
theorem dX2_findBest_56 : decode cX2_findBest 56 = .ok (.iconst 1, 1) := by decide +kernel
theorem dX2_findBest_57 : decode cX2_findBest 57 = .ok (.goto 4, 3) := by decide +kernel
theorem dX2_findBest_68 : decode cX2_findBest 68 = .ok (.iload 5, 2) := by decide +kernel
theorem dX2_findBest_70 : decode cX2_findBest 70 = .ok (.goto 4, 3) := by decide +kernel
theorem dX2_takeOrder_0 : decode cX2_takeOrder 0 = .ok (.aload_n 1, 1) := by decide +kernel
theorem dX2_takeOrder_1 : decode cX2_takeOrder 1 = .ok (.invokevirtual 15, 3) := by decide +kernel
theorem dX2_takeOrder_4 : decode cX2_takeOrder 4 = .ok (.istore_n 3, 1) := by decide +kernel
theorem dX2_takeOrder_5 : decode cX2_takeOrder 5 = .ok (.aload_n 0, 1) := by decide +kernel
theorem dX2_takeOrder_6 : decode cX2_takeOrder 6 = .ok (.iconst 0, 1) := by decide +kernel
theorem dX2_takeOrder_7 : decode cX2_takeOrder 7 = .ok (.putfield 24, 3) := by decide +kernel
theorem dX2_takeOrder_10 : decode cX2_takeOrder 10 = .ok (.aload_n 2, 1) := by decide +kernel
theorem dX2_takeOrder_11 : decode cX2_takeOrder 11 = .ok (.getfield 43, 3) := by decide +kernel
theorem mw_999 : Cond.fieldLink RX2 43 "ThatchNext$Numbers" "size" "I" ∈ wsL_law := List.mem_of_getElem? (i := 999) (by decide +kernel)
theorem dX2_takeOrder_14 : decode cX2_takeOrder 14 = .ok (.iload_n 3, 1) := by decide +kernel
theorem dX2_takeOrder_15 : decode cX2_takeOrder 15 = .ok (.invokestatic 28, 3) := by decide +kernel
theorem dX2_takeOrder_18 : decode cX2_takeOrder 18 = .ok (.if_icmp .eq 5, 3) := by decide +kernel
theorem dX2_takeOrder_23 : decode cX2_takeOrder 23 = .ok (.iconst 0, 1) := by decide +kernel
theorem dX2_takeOrder_24 : decode cX2_takeOrder 24 = .ok (.istore 4, 2) := by decide +kernel
theorem dX2_takeOrder_26 : decode cX2_takeOrder 26 = .ok (.iload 4, 2) := by decide +kernel
theorem dX2_takeOrder_28 : decode cX2_takeOrder 28 = .ok (.aload_n 2, 1) := by decide +kernel
theorem dX2_takeOrder_29 : decode cX2_takeOrder 29 = .ok (.getfield 43, 3) := by decide +kernel
theorem dX2_takeOrder_32 : decode cX2_takeOrder 32 = .ok (.if_icmp .ge 85, 3) := by decide +kernel
theorem dX2_takeOrder_117 : decode cX2_takeOrder 117 = .ok (.iload_n 3, 1) := by decide +kernel
theorem dX2_takeOrder_118 : decode cX2_takeOrder 118 = .ok (.ifCond .ne 7, 3) := by decide +kernel
theorem dX2_takeOrder_125 : decode cX2_takeOrder 125 = .ok (.iconst 0, 1) := by decide +kernel
theorem dX2_takeOrder_126 : decode cX2_takeOrder 126 = .ok (.ireturn, 1) := by decide +kernel
theorem dX2_takeOrder_121 : decode cX2_takeOrder 121 = .ok (.iconst 1, 1) := by decide +kernel
theorem dX2_takeOrder_122 : decode cX2_takeOrder 122 = .ok (.goto 4, 3) := by decide +kernel
theorem dX2_takeOrder_35 : decode cX2_takeOrder 35 = .ok (.iload 4, 2) := by decide +kernel
theorem dX2_takeOrder_37 : decode cX2_takeOrder 37 = .ok (.bipush 10, 2) := by decide +kernel
theorem dX2_takeOrder_39 : decode cX2_takeOrder 39 = .ok (.if_icmp .ge 78, 3) := by decide +kernel
theorem dX2_takeOrder_42 : decode cX2_takeOrder 42 = .ok (.aload_n 2, 1) := by decide +kernel
theorem dX2_takeOrder_43 : decode cX2_takeOrder 43 = .ok (.getfield 44, 3) := by decide +kernel
theorem mw_1000 : Cond.fieldLink RX2 44 "ThatchNext$Numbers" "values" "[J" ∈ wsL_law := List.mem_of_getElem? (i := 1000) (by decide +kernel)
theorem dX2_takeOrder_46 : decode cX2_takeOrder 46 = .ok (.iload 4, 2) := by decide +kernel
theorem dX2_takeOrder_48 : decode cX2_takeOrder 48 = .ok (.laload, 1) := by decide +kernel
theorem dX2_takeOrder_49 : decode cX2_takeOrder 49 = .ok (.lstore 5, 2) := by decide +kernel
theorem dX2_takeOrder_51 : decode cX2_takeOrder 51 = .ok (.lload 5, 2) := by decide +kernel
theorem dX2_takeOrder_53 : decode cX2_takeOrder 53 = .ok (.lconst 0, 1) := by decide +kernel
theorem dX2_takeOrder_54 : decode cX2_takeOrder 54 = .ok (.lcmp, 1) := by decide +kernel
theorem dX2_takeOrder_55 : decode cX2_takeOrder 55 = .ok (.ifCond .lt 24, 3) := by decide +kernel
theorem dX2_takeOrder_79 : decode cX2_takeOrder 79 = .ok (.iconst 0, 1) := by decide +kernel
theorem dX2_takeOrder_80 : decode cX2_takeOrder 80 = .ok (.ireturn, 1) := by decide +kernel
theorem dX2_takeOrder_58 : decode cX2_takeOrder 58 = .ok (.lload 5, 2) := by decide +kernel
theorem dX2_takeOrder_60 : decode cX2_takeOrder 60 = .ok (.aload_n 1, 1) := by decide +kernel
theorem dX2_takeOrder_61 : decode cX2_takeOrder 61 = .ok (.getfield 48, 3) := by decide +kernel
theorem mw_1033 : Cond.fieldLink RX2 48 "ThatchNext$World" "roofs" "I" ∈ wsL_law := List.mem_of_getElem? (i := 1033) (by decide +kernel)
theorem dX2_takeOrder_64 : decode cX2_takeOrder 64 = .ok (.i2l, 1) := by decide +kernel
theorem dX2_takeOrder_65 : decode cX2_takeOrder 65 = .ok (.lcmp, 1) := by decide +kernel
theorem dX2_takeOrder_66 : decode cX2_takeOrder 66 = .ok (.ifCond .ge 13, 3) := by decide +kernel
theorem dX2_takeOrder_69 : decode cX2_takeOrder 69 = .ok (.iload_n 3, 1) := by decide +kernel
theorem dX2_takeOrder_70 : decode cX2_takeOrder 70 = .ok (.lload 5, 2) := by decide +kernel
theorem dX2_takeOrder_72 : decode cX2_takeOrder 72 = .ok (.l2i, 1) := by decide +kernel
theorem dX2_takeOrder_73 : decode cX2_takeOrder 73 = .ok (.invokestatic 51, 3) := by decide +kernel
theorem dX2_takeOrder_76 : decode cX2_takeOrder 76 = .ok (.ifCond .ne 5, 3) := by decide +kernel
theorem dX2_takeOrder_81 : decode cX2_takeOrder 81 = .ok (.aload_n 0, 1) := by decide +kernel
theorem dX2_takeOrder_82 : decode cX2_takeOrder 82 = .ok (.getfield 9, 3) := by decide +kernel
theorem dX2_takeOrder_85 : decode cX2_takeOrder 85 = .ok (.iload 4, 2) := by decide +kernel
theorem dX2_takeOrder_87 : decode cX2_takeOrder 87 = .ok (.lload 5, 2) := by decide +kernel
theorem dX2_takeOrder_89 : decode cX2_takeOrder 89 = .ok (.l2i, 1) := by decide +kernel
theorem dX2_takeOrder_90 : decode cX2_takeOrder 90 = .ok (.iastore, 1) := by decide +kernel
theorem dX2_takeOrder_91 : decode cX2_takeOrder 91 = .ok (.iload_n 3, 1) := by decide +kernel
theorem dX2_takeOrder_92 : decode cX2_takeOrder 92 = .ok (.iconst 1, 1) := by decide +kernel
theorem dX2_takeOrder_93 : decode cX2_takeOrder 93 = .ok (.lload 5, 2) := by decide +kernel
theorem dX2_takeOrder_95 : decode cX2_takeOrder 95 = .ok (.l2i, 1) := by decide +kernel
theorem dX2_takeOrder_96 : decode cX2_takeOrder 96 = .ok (.ishl, 1) := by decide +kernel
theorem dX2_takeOrder_97 : decode cX2_takeOrder 97 = .ok (.iconst (-1), 1) := by decide +kernel
theorem dX2_takeOrder_98 : decode cX2_takeOrder 98 = .ok (.ixor, 1) := by decide +kernel
theorem dX2_takeOrder_99 : decode cX2_takeOrder 99 = .ok (.iand, 1) := by decide +kernel
theorem dX2_takeOrder_100 : decode cX2_takeOrder 100 = .ok (.istore_n 3, 1) := by decide +kernel
theorem dX2_takeOrder_101 : decode cX2_takeOrder 101 = .ok (.aload_n 0, 1) := by decide +kernel
theorem dX2_takeOrder_102 : decode cX2_takeOrder 102 = .ok (.dup, 1) := by decide +kernel
theorem dX2_takeOrder_103 : decode cX2_takeOrder 103 = .ok (.getfield 24, 3) := by decide +kernel
theorem dX2_takeOrder_106 : decode cX2_takeOrder 106 = .ok (.iconst 1, 1) := by decide +kernel
theorem dX2_takeOrder_107 : decode cX2_takeOrder 107 = .ok (.iadd, 1) := by decide +kernel
theorem dX2_takeOrder_108 : decode cX2_takeOrder 108 = .ok (.putfield 24, 3) := by decide +kernel
theorem dX2_takeOrder_111 : decode cX2_takeOrder 111 = .ok (.iinc 4 1, 3) := by decide +kernel
theorem dX2_takeOrder_114 : decode cX2_takeOrder 114 = .ok (.goto (-88), 3) := by decide +kernel
theorem dX2_takeOrder_21 : decode cX2_takeOrder 21 = .ok (.iconst 0, 1) := by decide +kernel
theorem dX2_takeOrder_22 : decode cX2_takeOrder 22 = .ok (.ireturn, 1) := by decide +kernel
theorem dX2_wetIn_0 : decode cX2_wetIn 0 = .ok (.iload_n 1, 1) := by decide +kernel
theorem dX2_wetIn_1 : decode cX2_wetIn 1 = .ok (.aload_n 0, 1) := by decide +kernel
theorem dX2_wetIn_2 : decode cX2_wetIn 2 = .ok (.getfield 24, 3) := by decide +kernel
theorem dX2_wetIn_5 : decode cX2_wetIn 5 = .ok (.if_icmp .ge 7, 3) := by decide +kernel
theorem dX2_wetIn_12 : decode cX2_wetIn 12 = .ok (.iconst 0, 1) := by decide +kernel
theorem dX2_wetIn_13 : decode cX2_wetIn 13 = .ok (.istore_n 3, 1) := by decide +kernel
theorem dX2_wetIn_14 : decode cX2_wetIn 14 = .ok (.iload_n 1, 1) := by decide +kernel
theorem dX2_wetIn_15 : decode cX2_wetIn 15 = .ok (.iconst 1, 1) := by decide +kernel
theorem dX2_wetIn_16 : decode cX2_wetIn 16 = .ok (.iadd, 1) := by decide +kernel
theorem dX2_wetIn_17 : decode cX2_wetIn 17 = .ok (.istore 4, 2) := by decide +kernel
theorem dX2_wetIn_19 : decode cX2_wetIn 19 = .ok (.iload 4, 2) := by decide +kernel
theorem dX2_wetIn_21 : decode cX2_wetIn 21 = .ok (.aload_n 0, 1) := by decide +kernel
theorem dX2_wetIn_22 : decode cX2_wetIn 22 = .ok (.getfield 24, 3) := by decide +kernel
theorem dX2_wetIn_25 : decode cX2_wetIn 25 = .ok (.if_icmp .ge 31, 3) := by decide +kernel
theorem dX2_wetIn_56 : decode cX2_wetIn 56 = .ok (.iload_n 3, 1) := by decide +kernel
theorem dX2_wetIn_57 : decode cX2_wetIn 57 = .ok (.ireturn, 1) := by decide +kernel
theorem dX2_wetIn_28 : decode cX2_wetIn 28 = .ok (.iload_n 3, 1) := by decide +kernel
theorem dX2_wetIn_29 : decode cX2_wetIn 29 = .ok (.aload_n 2, 1) := by decide +kernel
theorem dX2_wetIn_30 : decode cX2_wetIn 30 = .ok (.aload_n 0, 1) := by decide +kernel
theorem dX2_wetIn_31 : decode cX2_wetIn 31 = .ok (.getfield 9, 3) := by decide +kernel
theorem dX2_wetIn_34 : decode cX2_wetIn 34 = .ok (.iload 4, 2) := by decide +kernel
theorem dX2_wetIn_36 : decode cX2_wetIn 36 = .ok (.iaload, 1) := by decide +kernel
theorem dX2_wetIn_37 : decode cX2_wetIn 37 = .ok (.invokevirtual 58, 3) := by decide +kernel
theorem hd_yX6_isLeaking : HD yX6_isLeaking RX6 1 := by decide +kernel
theorem mw_1005 : Cond.methodLink RX2 58 yX6_isLeaking ∈ wsL_law := List.mem_of_getElem? (i := 1005) (by decide +kernel)
theorem mw_376 : Cond.instanceMethod yX6_isLeaking ∈ wsL_law := List.mem_of_getElem? (i := 376) (by decide +kernel)
theorem mw_377 : Cond.selects RX6 yX6_isLeaking yX6_isLeaking ∈ wsL_law := List.mem_of_getElem? (i := 377) (by decide +kernel)
theorem mw_378 : Cond.code yX6_isLeaking cX6_isLeaking 2 (some .boolean) ∈ wsL_law := List.mem_of_getElem? (i := 378) (by decide +kernel)
theorem dX2_wetIn_40 : decode cX2_wetIn 40 = .ok (.ifCond .eq 7, 3) := by decide +kernel
theorem dX2_wetIn_47 : decode cX2_wetIn 47 = .ok (.iconst 0, 1) := by decide +kernel
theorem dX2_wetIn_48 : decode cX2_wetIn 48 = .ok (.iadd, 1) := by decide +kernel
theorem dX2_wetIn_49 : decode cX2_wetIn 49 = .ok (.istore_n 3, 1) := by decide +kernel
theorem dX2_wetIn_50 : decode cX2_wetIn 50 = .ok (.iinc 4 1, 3) := by decide +kernel
theorem dX2_wetIn_53 : decode cX2_wetIn 53 = .ok (.goto (-34), 3) := by decide +kernel
theorem dX2_wetIn_43 : decode cX2_wetIn 43 = .ok (.iconst 1, 1) := by decide +kernel
theorem dX2_wetIn_44 : decode cX2_wetIn 44 = .ok (.goto 4, 3) := by decide +kernel
theorem dX2_wetIn_8 : decode cX2_wetIn 8 = .ok (.iconst 1, 1) := by decide +kernel
theorem dX2_wetIn_9 : decode cX2_wetIn 9 = .ok (.goto 4, 3) := by decide +kernel
theorem dX2_wettedBy_0 : decode cX2_wettedBy 0 = .ok (.iconst 0, 1) := by decide +kernel
theorem dX2_wettedBy_1 : decode cX2_wettedBy 1 = .ok (.istore_n 3, 1) := by decide +kernel
theorem dX2_wettedBy_2 : decode cX2_wettedBy 2 = .ok (.iconst 0, 1) := by decide +kernel
theorem dX2_wettedBy_3 : decode cX2_wettedBy 3 = .ok (.istore 4, 2) := by decide +kernel
theorem dX2_wettedBy_5 : decode cX2_wettedBy 5 = .ok (.iload 4, 2) := by decide +kernel
theorem dX2_wettedBy_7 : decode cX2_wettedBy 7 = .ok (.aload_n 2, 1) := by decide +kernel
theorem dX2_wettedBy_8 : decode cX2_wettedBy 8 = .ok (.getfield 43, 3) := by decide +kernel
theorem dX2_wettedBy_11 : decode cX2_wettedBy 11 = .ok (.if_icmp .ge 31, 3) := by decide +kernel
theorem dX2_wettedBy_42 : decode cX2_wettedBy 42 = .ok (.iload_n 3, 1) := by decide +kernel
theorem dX2_wettedBy_43 : decode cX2_wettedBy 43 = .ok (.ireturn, 1) := by decide +kernel
theorem dX2_wettedBy_14 : decode cX2_wettedBy 14 = .ok (.aload_n 2, 1) := by decide +kernel
theorem dX2_wettedBy_15 : decode cX2_wettedBy 15 = .ok (.getfield 44, 3) := by decide +kernel
theorem dX2_wettedBy_18 : decode cX2_wettedBy 18 = .ok (.iload 4, 2) := by decide +kernel
theorem dX2_wettedBy_20 : decode cX2_wettedBy 20 = .ok (.laload, 1) := by decide +kernel
theorem dX2_wettedBy_21 : decode cX2_wettedBy 21 = .ok (.lconst 0, 1) := by decide +kernel
theorem dX2_wettedBy_22 : decode cX2_wettedBy 22 = .ok (.lcmp, 1) := by decide +kernel
theorem dX2_wettedBy_23 : decode cX2_wettedBy 23 = .ok (.ifCond .eq 13, 3) := by decide +kernel
theorem dX2_wettedBy_26 : decode cX2_wettedBy 26 = .ok (.iload_n 3, 1) := by decide +kernel
theorem dX2_wettedBy_27 : decode cX2_wettedBy 27 = .ok (.aload_n 0, 1) := by decide +kernel
theorem dX2_wettedBy_28 : decode cX2_wettedBy 28 = .ok (.iload 4, 2) := by decide +kernel
theorem dX2_wettedBy_30 : decode cX2_wettedBy 30 = .ok (.aload_n 1, 1) := by decide +kernel
theorem dX2_wettedBy_31 : decode cX2_wettedBy 31 = .ok (.invokevirtual 54, 3) := by decide +kernel
theorem hd_yX2_wetIn : HD yX2_wetIn RX2 2 := by decide +kernel
theorem mw_1001 : Cond.methodLink RX2 54 yX2_wetIn ∈ wsL_law := List.mem_of_getElem? (i := 1001) (by decide +kernel)
theorem mw_1002 : Cond.instanceMethod yX2_wetIn ∈ wsL_law := List.mem_of_getElem? (i := 1002) (by decide +kernel)
theorem mw_1003 : Cond.selects RX2 yX2_wetIn yX2_wetIn ∈ wsL_law := List.mem_of_getElem? (i := 1003) (by decide +kernel)
theorem mw_29 : Cond.initialized RX2 ∈ wsL_law := List.mem_of_getElem? (i := 29) (by decide +kernel)
theorem mw_1004 : Cond.code yX2_wetIn cX2_wetIn 5 (some .int) ∈ wsL_law := List.mem_of_getElem? (i := 1004) (by decide +kernel)
theorem dX2_wettedBy_34 : decode cX2_wettedBy 34 = .ok (.iadd, 1) := by decide +kernel
theorem dX2_wettedBy_35 : decode cX2_wettedBy 35 = .ok (.istore_n 3, 1) := by decide +kernel
theorem dX2_wettedBy_36 : decode cX2_wettedBy 36 = .ok (.iinc 4 1, 3) := by decide +kernel
theorem dX2_wettedBy_39 : decode cX2_wettedBy 39 = .ok (.goto (-34), 3) := by decide +kernel
set_option maxHeartbeats 4000000 in
set_option maxRecDepth 100000 in
theorem s_J_ntz (l : Launch) (D : va_G) (k : Nat → ClassId) (x : Int32) (w_hx : 1 ≤ x.toInt ∧ x.toInt ≤ 1023) : Met l yJ6_numberOfTrailingZeros_0f7a4 (Cond.code yJ6_numberOfTrailingZeros_0f7a4 cJ6_numberOfTrailingZeros_0f7a4 2 (some .int) :: wsL_law) ({ frames := 0, cells := 0, slots := 0, locals := 0 } : Room) (va_Pc [.int x] (pr D k [])) (vp_Si (fun rr => 0 ≤ rr.toInt ∧ rr.toInt ≤ 9)) 0 0 (fun _ => False) := by
  refine Met.ofW (cc := cJ6_numberOfTrailingZeros_0f7a4) (maxL := 2) (ret := (some .int)) (by decide) rfl ?_
  intro p e s m args below meth c s₁ B hml hv
  obtain ⟨rfl, hP, hK, hN0⟩ := hv
  have hx := B.exec
  have hb := B.bytes
  have hr := B.returns
  have hts : ∀ w ∈ wsL_law, w.before _ s = true := fun w h => atoms_spec (ws := Cond.code yJ6_numberOfTrailingZeros_0f7a4 cJ6_numberOfTrailingZeros_0f7a4 2 (some .int) :: wsL_law) B.pre w (List.mem_cons_of_mem _ h)
  have hown : s.vm.findClass RJ6 = some m.cls := findClass_of_methodNamed B.named
  have hlocks := B.notSynchronized
  have hP : va_P D vwCl [] s.heap := hP
  have hl := lv_entry ([.int x]) (n := 2) (Nat.le_of_ble_eq_true rfl)
  rw [lg_entry_eq]
  generalize (lg_sl ([.int x]) ++ List.replicate (2 - (lg_sl ([.int x])).length) Slot.unset).toArray = ls at hl ⊢
  have hl : lv_has ls 2 [(0, .int x)] := hl
  refine lv_iload_n hx hb dJ6_numberOfTrailingZeros_0f7a4_0 rfl (lv_at hl 0 rfl) ?_
  refine lv_iconst (v := (-1)) hx hb dJ6_numberOfTrailingZeros_0f7a4_1 (by decide) ?_
  refine lv_ixor hx hb dJ6_numberOfTrailingZeros_0f7a4_2 ?_
  refine lv_topi (fun z_1 ez_1 => ?_)
  refine lv_iload_n hx hb dJ6_numberOfTrailingZeros_0f7a4_3 rfl (lv_at hl 0 rfl) ?_
  refine lv_iconst (v := 1) hx hb dJ6_numberOfTrailingZeros_0f7a4_4 (by decide) ?_
  refine lv_isub hx hb dJ6_numberOfTrailingZeros_0f7a4_5 ?_
  refine lv_topi (fun z_2 ez_2 => ?_)
  have tz_2 : z_2.toInt = x.toInt - 1 := by rw [ez_2]; exact ti_subc (by decide) (by omega) (by omega)
  refine lv_iand hx hb dJ6_numberOfTrailingZeros_0f7a4_6 ?_
  refine lv_topi (fun z_3 ez_3 => ?_)
  have tz_3 : 0 ≤ z_3.toInt ∧ z_3.toInt ≤ 511 := by subst_vars; exact ntz_m (by omega) (by omega)
  refine lv_istore_n (lv' := [(0, .int z_3)]) hx hb dJ6_numberOfTrailingZeros_0f7a4_7 rfl hl (by decide) rfl (fun ls hl => ?_)
  refine lv_iload_n hx hb dJ6_numberOfTrailingZeros_0f7a4_8 rfl (lv_at hl 0 rfl) ?_
  refine lv_if_gt (tgt := 17) hx hb dJ6_numberOfTrailingZeros_0f7a4_9 (by decide) (fun c_4 => ?_) (fun c_4 => ?_)
  · have c_4 : 0 < z_3.toInt := ti_lt c_4
    refine lv_iconst (v := 1) hx hb dJ6_numberOfTrailingZeros_0f7a4_17 (by decide) ?_
    refine lv_istore_n (lv' := [(1, .int 1), (0, .int z_3)]) hx hb dJ6_numberOfTrailingZeros_0f7a4_18 rfl hl (by decide) rfl (fun ls hl => ?_)
    refine lv_iload_n hx hb dJ6_numberOfTrailingZeros_0f7a4_19 rfl (lv_at hl 1 rfl) ?_
    refine lv_ldcw (own := RJ6) (index := 264) (v := 65536) hx hb hown (hts _ mw_994) dJ6_numberOfTrailingZeros_0f7a4_20 ?_
    refine lv_icmp_le (tgt := 34) hx hb dJ6_numberOfTrailingZeros_0f7a4_23 (by decide) (fun c_5 => ?_) (fun c_5 => by have q := ti_nle c_5; have q : 65536 < z_3.toInt := q; exfalso; omega)
    have c_5 : z_3.toInt ≤ 65536 := ti_le c_5
    refine lv_iload_n hx hb dJ6_numberOfTrailingZeros_0f7a4_34 rfl (lv_at hl 1 rfl) ?_
    refine lv_sipush (v := 256) hx hb dJ6_numberOfTrailingZeros_0f7a4_35 (by decide) ?_
    refine lv_icmp_le (tgt := 49) hx hb dJ6_numberOfTrailingZeros_0f7a4_38 (by decide) (fun c_6 => ?_) (fun c_6 => ?_)
    · have c_6 : z_3.toInt ≤ 256 := ti_le c_6
      refine lv_iload_n hx hb dJ6_numberOfTrailingZeros_0f7a4_49 rfl (lv_at hl 1 rfl) ?_
      refine lv_bipush (v := 16) hx hb dJ6_numberOfTrailingZeros_0f7a4_50 (by decide) ?_
      refine lv_icmp_le (tgt := 62) hx hb dJ6_numberOfTrailingZeros_0f7a4_52 (by decide) (fun c_7 => ?_) (fun c_7 => ?_)
      · have c_7 : z_3.toInt ≤ 16 := ti_le c_7
        refine lv_iload_n hx hb dJ6_numberOfTrailingZeros_0f7a4_62 rfl (lv_at hl 1 rfl) ?_
        refine lv_iconst (v := 4) hx hb dJ6_numberOfTrailingZeros_0f7a4_63 (by decide) ?_
        refine lv_icmp_le (tgt := 74) hx hb dJ6_numberOfTrailingZeros_0f7a4_64 (by decide) (fun c_8 => ?_) (fun c_8 => ?_)
        · have c_8 : z_3.toInt ≤ 4 := ti_le c_8
          refine lv_iload_n hx hb dJ6_numberOfTrailingZeros_0f7a4_74 rfl (lv_at hl 0 rfl) ?_
          refine lv_iload_n hx hb dJ6_numberOfTrailingZeros_0f7a4_75 rfl (lv_at hl 1 rfl) ?_
          refine lv_iconst (v := 1) hx hb dJ6_numberOfTrailingZeros_0f7a4_76 (by decide) ?_
          refine lv_iushr hx hb dJ6_numberOfTrailingZeros_0f7a4_77 rfl ?_
          refine lv_topi (fun z_9 ez_9 => ?_)
          have tz_9 : z_9.toInt = z_3.toInt / 2 := ushr_1 ez_9 ⟨by omega, by omega⟩
          refine lv_iadd hx hb dJ6_numberOfTrailingZeros_0f7a4_78 ?_
          refine lv_topi (fun z_10 ez_10 => ?_)
          have tz_10 : z_10.toInt = 1 + z_9.toInt := by rw [ez_10]; exact ti_addcl (by decide) (by omega) (by omega)
          exact W.iret (v := z_10) hx hb hr (fun t ht hW => ⟨z_10, rfl, ⟨by omega, by omega⟩, ht⟩) (fun q h => by cases h) dJ6_numberOfTrailingZeros_0f7a4_79
        · have c_8 : 4 < z_3.toInt := ti_nle c_8
          refine lv_iinc (v := 3) (lv' := [(1, .int 3), (0, .int z_3)]) hx hb dJ6_numberOfTrailingZeros_0f7a4_67 hl (k := 0) rfl (by decide) (by decide) rfl (fun ls hl => ?_)
          refine lv_iload_n hx hb dJ6_numberOfTrailingZeros_0f7a4_70 rfl (lv_at hl 1 rfl) ?_
          refine lv_iconst (v := 2) hx hb dJ6_numberOfTrailingZeros_0f7a4_71 (by decide) ?_
          refine lv_iushr hx hb dJ6_numberOfTrailingZeros_0f7a4_72 rfl ?_
          refine lv_topi (fun z_11 ez_11 => ?_)
          have tz_11 : z_11.toInt = z_3.toInt / 4 := ushr_2 ez_11 ⟨by omega, by omega⟩
          refine lv_istore_n (lv' := [(0, .int z_11), (1, .int 3)]) hx hb dJ6_numberOfTrailingZeros_0f7a4_73 rfl hl (by decide) rfl (fun ls hl => ?_)
          refine lv_iload_n hx hb dJ6_numberOfTrailingZeros_0f7a4_74 rfl (lv_at hl 1 rfl) ?_
          refine lv_iload_n hx hb dJ6_numberOfTrailingZeros_0f7a4_75 rfl (lv_at hl 0 rfl) ?_
          refine lv_iconst (v := 1) hx hb dJ6_numberOfTrailingZeros_0f7a4_76 (by decide) ?_
          refine lv_iushr hx hb dJ6_numberOfTrailingZeros_0f7a4_77 rfl ?_
          refine lv_topi (fun z_12 ez_12 => ?_)
          have tz_12 : z_12.toInt = z_11.toInt / 2 := ushr_1 ez_12 ⟨by omega, by omega⟩
          refine lv_iadd hx hb dJ6_numberOfTrailingZeros_0f7a4_78 ?_
          refine lv_topi (fun z_13 ez_13 => ?_)
          have tz_13 : z_13.toInt = 3 + z_12.toInt := by rw [ez_13]; exact ti_addcl (by decide) (by omega) (by omega)
          exact W.iret (v := z_13) hx hb hr (fun t ht hW => ⟨z_13, rfl, ⟨by omega, by omega⟩, ht⟩) (fun q h => by cases h) dJ6_numberOfTrailingZeros_0f7a4_79
      · have c_7 : 16 < z_3.toInt := ti_nle c_7
        refine lv_iinc (v := 5) (lv' := [(1, .int 5), (0, .int z_3)]) hx hb dJ6_numberOfTrailingZeros_0f7a4_55 hl (k := 0) rfl (by decide) (by decide) rfl (fun ls hl => ?_)
        refine lv_iload_n hx hb dJ6_numberOfTrailingZeros_0f7a4_58 rfl (lv_at hl 1 rfl) ?_
        refine lv_iconst (v := 4) hx hb dJ6_numberOfTrailingZeros_0f7a4_59 (by decide) ?_
        refine lv_iushr hx hb dJ6_numberOfTrailingZeros_0f7a4_60 rfl ?_
        refine lv_topi (fun z_14 ez_14 => ?_)
        have tz_14 : z_14.toInt = z_3.toInt / 16 := ushr_4 ez_14 ⟨by omega, by omega⟩
        refine lv_istore_n (lv' := [(0, .int z_14), (1, .int 5)]) hx hb dJ6_numberOfTrailingZeros_0f7a4_61 rfl hl (by decide) rfl (fun ls hl => ?_)
        refine lv_iload_n hx hb dJ6_numberOfTrailingZeros_0f7a4_62 rfl (lv_at hl 0 rfl) ?_
        refine lv_iconst (v := 4) hx hb dJ6_numberOfTrailingZeros_0f7a4_63 (by decide) ?_
        refine lv_icmp_le (tgt := 74) hx hb dJ6_numberOfTrailingZeros_0f7a4_64 (by decide) (fun c_15 => ?_) (fun c_15 => ?_)
        · have c_15 : z_14.toInt ≤ 4 := ti_le c_15
          refine lv_iload_n hx hb dJ6_numberOfTrailingZeros_0f7a4_74 rfl (lv_at hl 1 rfl) ?_
          refine lv_iload_n hx hb dJ6_numberOfTrailingZeros_0f7a4_75 rfl (lv_at hl 0 rfl) ?_
          refine lv_iconst (v := 1) hx hb dJ6_numberOfTrailingZeros_0f7a4_76 (by decide) ?_
          refine lv_iushr hx hb dJ6_numberOfTrailingZeros_0f7a4_77 rfl ?_
          refine lv_topi (fun z_16 ez_16 => ?_)
          have tz_16 : z_16.toInt = z_14.toInt / 2 := ushr_1 ez_16 ⟨by omega, by omega⟩
          refine lv_iadd hx hb dJ6_numberOfTrailingZeros_0f7a4_78 ?_
          refine lv_topi (fun z_17 ez_17 => ?_)
          have tz_17 : z_17.toInt = 5 + z_16.toInt := by rw [ez_17]; exact ti_addcl (by decide) (by omega) (by omega)
          exact W.iret (v := z_17) hx hb hr (fun t ht hW => ⟨z_17, rfl, ⟨by omega, by omega⟩, ht⟩) (fun q h => by cases h) dJ6_numberOfTrailingZeros_0f7a4_79
        · have c_15 : 4 < z_14.toInt := ti_nle c_15
          refine lv_iinc (v := 7) (lv' := [(1, .int 7), (0, .int z_14)]) hx hb dJ6_numberOfTrailingZeros_0f7a4_67 hl (k := 1) rfl (by decide) (by decide) rfl (fun ls hl => ?_)
          refine lv_iload_n hx hb dJ6_numberOfTrailingZeros_0f7a4_70 rfl (lv_at hl 1 rfl) ?_
          refine lv_iconst (v := 2) hx hb dJ6_numberOfTrailingZeros_0f7a4_71 (by decide) ?_
          refine lv_iushr hx hb dJ6_numberOfTrailingZeros_0f7a4_72 rfl ?_
          refine lv_topi (fun z_18 ez_18 => ?_)
          have tz_18 : z_18.toInt = z_14.toInt / 4 := ushr_2 ez_18 ⟨by omega, by omega⟩
          refine lv_istore_n (lv' := [(0, .int z_18), (1, .int 7)]) hx hb dJ6_numberOfTrailingZeros_0f7a4_73 rfl hl (by decide) rfl (fun ls hl => ?_)
          refine lv_iload_n hx hb dJ6_numberOfTrailingZeros_0f7a4_74 rfl (lv_at hl 1 rfl) ?_
          refine lv_iload_n hx hb dJ6_numberOfTrailingZeros_0f7a4_75 rfl (lv_at hl 0 rfl) ?_
          refine lv_iconst (v := 1) hx hb dJ6_numberOfTrailingZeros_0f7a4_76 (by decide) ?_
          refine lv_iushr hx hb dJ6_numberOfTrailingZeros_0f7a4_77 rfl ?_
          refine lv_topi (fun z_19 ez_19 => ?_)
          have tz_19 : z_19.toInt = z_18.toInt / 2 := ushr_1 ez_19 ⟨by omega, by omega⟩
          refine lv_iadd hx hb dJ6_numberOfTrailingZeros_0f7a4_78 ?_
          refine lv_topi (fun z_20 ez_20 => ?_)
          have tz_20 : z_20.toInt = 7 + z_19.toInt := by rw [ez_20]; exact ti_addcl (by decide) (by omega) (by omega)
          exact W.iret (v := z_20) hx hb hr (fun t ht hW => ⟨z_20, rfl, ⟨by omega, by omega⟩, ht⟩) (fun q h => by cases h) dJ6_numberOfTrailingZeros_0f7a4_79
    · have c_6 : 256 < z_3.toInt := ti_nle c_6
      refine lv_iinc (v := 9) (lv' := [(1, .int 9), (0, .int z_3)]) hx hb dJ6_numberOfTrailingZeros_0f7a4_41 hl (k := 0) rfl (by decide) (by decide) rfl (fun ls hl => ?_)
      refine lv_iload_n hx hb dJ6_numberOfTrailingZeros_0f7a4_44 rfl (lv_at hl 1 rfl) ?_
      refine lv_bipush (v := 8) hx hb dJ6_numberOfTrailingZeros_0f7a4_45 (by decide) ?_
      refine lv_iushr hx hb dJ6_numberOfTrailingZeros_0f7a4_47 rfl ?_
      refine lv_topi (fun z_21 ez_21 => ?_)
      have tz_21 : z_21.toInt = z_3.toInt / 256 := ushr_8 ez_21 ⟨by omega, by omega⟩
      refine lv_istore_n (lv' := [(0, .int z_21), (1, .int 9)]) hx hb dJ6_numberOfTrailingZeros_0f7a4_48 rfl hl (by decide) rfl (fun ls hl => ?_)
      refine lv_iload_n hx hb dJ6_numberOfTrailingZeros_0f7a4_49 rfl (lv_at hl 0 rfl) ?_
      refine lv_bipush (v := 16) hx hb dJ6_numberOfTrailingZeros_0f7a4_50 (by decide) ?_
      refine lv_icmp_le (tgt := 62) hx hb dJ6_numberOfTrailingZeros_0f7a4_52 (by decide) (fun c_22 => ?_) (fun c_22 => by have q := ti_nle c_22; have q : 16 < z_21.toInt := q; exfalso; omega)
      have c_22 : z_21.toInt ≤ 16 := ti_le c_22
      have qc_22 : z_21 = 1 := ti_of (show z_21.toInt = 1 from by omega)
      refine lv_iload_n hx hb dJ6_numberOfTrailingZeros_0f7a4_62 rfl (lv_at hl 0 rfl) ?_
      refine lv_ni (v := 1) (qc_22) ?_
      refine lv_iconst (v := 4) hx hb dJ6_numberOfTrailingZeros_0f7a4_63 (by decide) ?_
      refine lv_icmp_le (tgt := 74) hx hb dJ6_numberOfTrailingZeros_0f7a4_64 (by decide) (fun _ => ?_) (fun c9 => absurd c9 (by decide))
      refine lv_iload_n hx hb dJ6_numberOfTrailingZeros_0f7a4_74 rfl (lv_at hl 1 rfl) ?_
      refine lv_iload_n hx hb dJ6_numberOfTrailingZeros_0f7a4_75 rfl (lv_at hl 0 rfl) ?_
      refine lv_ni (v := 1) (qc_22) ?_
      refine lv_iconst (v := 1) hx hb dJ6_numberOfTrailingZeros_0f7a4_76 (by decide) ?_
      refine lv_iushr (v := 0) hx hb dJ6_numberOfTrailingZeros_0f7a4_77 (by decide) ?_
      refine lv_iadd hx hb dJ6_numberOfTrailingZeros_0f7a4_78 ?_
      refine lv_ni (v := 9) (by decide) ?_
      exact W.iret (v := 9) hx hb hr (fun t ht hW => ⟨9, rfl, ⟨by decide, by decide⟩, ht⟩) (fun q h => by cases h) dJ6_numberOfTrailingZeros_0f7a4_79
  · have c_4 : z_3.toInt ≤ 0 := ti_nlt c_4
    have qc_4 : z_3 = 0 := ti_of (show z_3.toInt = 0 from by omega)
    refine lv_iload_n hx hb dJ6_numberOfTrailingZeros_0f7a4_12 rfl (lv_at hl 0 rfl) ?_
    refine lv_ni (v := 0) (qc_4) ?_
    refine lv_bipush (v := 32) hx hb dJ6_numberOfTrailingZeros_0f7a4_13 (by decide) ?_
    refine lv_iand hx hb dJ6_numberOfTrailingZeros_0f7a4_15 ?_
    refine lv_ni (v := 0) (by decide) ?_
    exact W.iret (v := 0) hx hb hr (fun t ht hW => ⟨0, rfl, ⟨by decide, by decide⟩, ht⟩) (fun q h => by cases h) dJ6_numberOfTrailingZeros_0f7a4_16
set_option maxHeartbeats 4000000 in
set_option maxRecDepth 100000 in
theorem s_J_bitCount0 (l : Launch) (D : va_G) (k : Nat → ClassId) : Met l yJ6_bitCount_0f7a4 (Cond.code yJ6_bitCount_0f7a4 cJ6_bitCount_0f7a4 1 (some .int) :: wsL_law) ({ frames := 0, cells := 0, slots := 0, locals := 0 } : Room) (va_Pc [.int 0] (pr D k [])) (vp_Si (fun rr => rr = 0)) 0 0 (fun _ => False) := by
  refine Met.ofW (cc := cJ6_bitCount_0f7a4) (maxL := 1) (ret := (some .int)) (by decide) rfl ?_
  intro p e s m args below meth c s₁ B hml hv
  obtain ⟨rfl, hP, hK, hN0⟩ := hv
  have hx := B.exec
  have hb := B.bytes
  have hr := B.returns
  have hts : ∀ w ∈ wsL_law, w.before _ s = true := fun w h => atoms_spec (ws := Cond.code yJ6_bitCount_0f7a4 cJ6_bitCount_0f7a4 1 (some .int) :: wsL_law) B.pre w (List.mem_cons_of_mem _ h)
  have hown : s.vm.findClass RJ6 = some m.cls := findClass_of_methodNamed B.named
  have hlocks := B.notSynchronized
  have hP : va_P D vwCl [] s.heap := hP
  have hl := lv_entry ([.int 0]) (n := 1) (Nat.le_of_ble_eq_true rfl)
  rw [lg_entry_eq]
  generalize (lg_sl ([.int 0]) ++ List.replicate (1 - (lg_sl ([.int 0])).length) Slot.unset).toArray = ls at hl ⊢
  have hl : lv_has ls 1 [(0, .int 0)] := hl
  refine lv_iload_n hx hb dJ6_bitCount_0f7a4_0 rfl (lv_at hl 0 rfl) ?_
  refine lv_iload_n hx hb dJ6_bitCount_0f7a4_1 rfl (lv_at hl 0 rfl) ?_
  refine lv_iconst (v := 1) hx hb dJ6_bitCount_0f7a4_2 (by decide) ?_
  refine lv_iushr (v := 0) hx hb dJ6_bitCount_0f7a4_3 (by decide) ?_
  refine lv_ldcw (own := RJ6) (index := 265) (v := 1431655765) hx hb hown (hts _ mw_728) dJ6_bitCount_0f7a4_4 ?_
  refine lv_iand hx hb dJ6_bitCount_0f7a4_7 ?_
  refine lv_ni (v := 0) (by decide) ?_
  refine lv_isub hx hb dJ6_bitCount_0f7a4_8 ?_
  refine lv_ni (v := 0) (by decide) ?_
  refine lv_istore_n (lv' := [(0, .int 0)]) hx hb dJ6_bitCount_0f7a4_9 rfl hl (by decide) rfl (fun ls hl => ?_)
  refine lv_iload_n hx hb dJ6_bitCount_0f7a4_10 rfl (lv_at hl 0 rfl) ?_
  refine lv_ldcw (own := RJ6) (index := 266) (v := 858993459) hx hb hown (hts _ mw_729) dJ6_bitCount_0f7a4_11 ?_
  refine lv_iand hx hb dJ6_bitCount_0f7a4_14 ?_
  refine lv_ni (v := 0) (by decide) ?_
  refine lv_iload_n hx hb dJ6_bitCount_0f7a4_15 rfl (lv_at hl 0 rfl) ?_
  refine lv_iconst (v := 2) hx hb dJ6_bitCount_0f7a4_16 (by decide) ?_
  refine lv_iushr (v := 0) hx hb dJ6_bitCount_0f7a4_17 (by decide) ?_
  refine lv_ldcw (own := RJ6) (index := 266) (v := 858993459) hx hb hown (hts _ mw_729) dJ6_bitCount_0f7a4_18 ?_
  refine lv_iand hx hb dJ6_bitCount_0f7a4_21 ?_
  refine lv_ni (v := 0) (by decide) ?_
  refine lv_iadd hx hb dJ6_bitCount_0f7a4_22 ?_
  refine lv_ni (v := 0) (by decide) ?_
  refine lv_istore_n (lv' := [(0, .int 0)]) hx hb dJ6_bitCount_0f7a4_23 rfl hl (by decide) rfl (fun ls hl => ?_)
  refine lv_iload_n hx hb dJ6_bitCount_0f7a4_24 rfl (lv_at hl 0 rfl) ?_
  refine lv_iload_n hx hb dJ6_bitCount_0f7a4_25 rfl (lv_at hl 0 rfl) ?_
  refine lv_iconst (v := 4) hx hb dJ6_bitCount_0f7a4_26 (by decide) ?_
  refine lv_iushr (v := 0) hx hb dJ6_bitCount_0f7a4_27 (by decide) ?_
  refine lv_iadd hx hb dJ6_bitCount_0f7a4_28 ?_
  refine lv_ni (v := 0) (by decide) ?_
  refine lv_ldcw (own := RJ6) (index := 267) (v := 252645135) hx hb hown (hts _ mw_730) dJ6_bitCount_0f7a4_29 ?_
  refine lv_iand hx hb dJ6_bitCount_0f7a4_32 ?_
  refine lv_ni (v := 0) (by decide) ?_
  refine lv_istore_n (lv' := [(0, .int 0)]) hx hb dJ6_bitCount_0f7a4_33 rfl hl (by decide) rfl (fun ls hl => ?_)
  refine lv_iload_n hx hb dJ6_bitCount_0f7a4_34 rfl (lv_at hl 0 rfl) ?_
  refine lv_iload_n hx hb dJ6_bitCount_0f7a4_35 rfl (lv_at hl 0 rfl) ?_
  refine lv_bipush (v := 8) hx hb dJ6_bitCount_0f7a4_36 (by decide) ?_
  refine lv_iushr (v := 0) hx hb dJ6_bitCount_0f7a4_38 (by decide) ?_
  refine lv_iadd hx hb dJ6_bitCount_0f7a4_39 ?_
  refine lv_ni (v := 0) (by decide) ?_
  refine lv_istore_n (lv' := [(0, .int 0)]) hx hb dJ6_bitCount_0f7a4_40 rfl hl (by decide) rfl (fun ls hl => ?_)
  refine lv_iload_n hx hb dJ6_bitCount_0f7a4_41 rfl (lv_at hl 0 rfl) ?_
  refine lv_iload_n hx hb dJ6_bitCount_0f7a4_42 rfl (lv_at hl 0 rfl) ?_
  refine lv_bipush (v := 16) hx hb dJ6_bitCount_0f7a4_43 (by decide) ?_
  refine lv_iushr (v := 0) hx hb dJ6_bitCount_0f7a4_45 (by decide) ?_
  refine lv_iadd hx hb dJ6_bitCount_0f7a4_46 ?_
  refine lv_ni (v := 0) (by decide) ?_
  refine lv_istore_n (lv' := [(0, .int 0)]) hx hb dJ6_bitCount_0f7a4_47 rfl hl (by decide) rfl (fun ls hl => ?_)
  refine lv_iload_n hx hb dJ6_bitCount_0f7a4_48 rfl (lv_at hl 0 rfl) ?_
  refine lv_bipush (v := 63) hx hb dJ6_bitCount_0f7a4_49 (by decide) ?_
  refine lv_iand hx hb dJ6_bitCount_0f7a4_51 ?_
  refine lv_ni (v := 0) (by decide) ?_
  exact W.iret (v := 0) hx hb hr (fun t ht hW => ⟨0, rfl, rfl, ht⟩) (fun q h => by cases h) dJ6_bitCount_0f7a4_52
set_option maxHeartbeats 4000000 in
set_option maxRecDepth 100000 in
theorem s_E_findBest (l : Launch) (D : va_G) (k : Nat → ClassId) (mo : Nat → Nat) (of : Nat → Int32) (ms : Int32) (w : Nat → Nat) (y : Nat → Int32) (g : Nat → Nat → Int32) (o : Nat) (q : Nat) (it : Int32) (sz_ : Int32) (so : Int32) (lf : Nat → Int64) (sz : Nat) (w_hof : ∀ j : Nat, 0 ≤ (of j).toInt ∧ (of j).toInt ≤ 9) (w_hms : 0 ≤ ms.toInt ∧ ms.toInt ≤ 10) (w_h0 : 0 ≤ (y 0).toInt ∧ (y 0).toInt ≤ 10) (w_h2 : 0 ≤ (y 2).toInt ∧ (y 2).toInt ≤ 6) (w_h6 : 0 ≤ (y 6).toInt ∧ (y 6).toInt ≤ 1) (w_hd : ∀ j : Nat, 0 ≤ ((g 1) j).toInt ∧ ((g 1) j).toInt ≤ 6) (w_hsz : 0 ≤ sz_.toInt ∧ sz_.toInt ≤ 40) : Met l yX2_findBest (Cond.code yX2_findBest cX2_findBest 8 none :: wsL_law) ({ frames := 5, cells := 0, slots := 0, locals := 300 } : Room) (va_Pc [.ref (mo 0), .ref (w 0), .ref o] (pu D k sz [((mo 0), .inr (1, [.ref (mo 1), .int ms])), ((mo 1), .inl (k 0, 10, .inl of)), ((w 0), .inr (5, [.int (y 0), .int (y 1), .int (y 2), .int (y 3), .int (y 4), .int (y 5), .int (y 6), .int (y 7), .int (y 8), .int (y 9), .int (y 10), .ref (w 1), .ref (w 2), .ref (w 3), .ref (w 4), .ref (w 5)])), ((w 1), .inl (k 0, 10, .inl (g 1))), ((w 3), .inl (k 0, 60, .inl (g 3))), (o, .inr (2, [.int it, .int sz_, .ref q, .int so])), (q, .inl (k 1, 40, .inr (.inl lf)))])) (va_Qv (fun uu : Int32 × (Nat → Int32) => (0 ≤ uu.1.toInt ∧ uu.1.toInt ≤ 10) ∧ (∀ j : Nat, 0 ≤ (uu.2 j).toInt ∧ (uu.2 j).toInt ≤ 9)) (qu D (va_A [((mo 0), .inr (1, [.ref (mo 1), .int ms])), ((mo 1), .inl (k 0, 10, .inl of)), ((w 0), .inr (5, [.int (y 0), .int (y 1), .int (y 2), .int (y 3), .int (y 4), .int (y 5), .int (y 6), .int (y 7), .int (y 8), .int (y 9), .int (y 10), .ref (w 1), .ref (w 2), .ref (w 3), .ref (w 4), .ref (w 5)])), ((w 1), .inl (k 0, 10, .inl (g 1))), ((w 3), .inl (k 0, 60, .inl (g 3))), (o, .inr (2, [.int it, .int sz_, .ref q, .int so])), (q, .inl (k 1, 40, .inr (.inl lf)))] sz) (fun uu : Int32 × (Nat → Int32) => [((mo 0), .inr (1, [.ref (mo 1), .int uu.1])), ((mo 1), .inl (k 0, 10, .inl uu.2)), ((w 0), .inr (5, [.int (y 0), .int (y 1), .int (y 2), .int (y 3), .int (y 4), .int (y 5), .int (y 6), .int (y 7), .int (y 8), .int (y 9), .int (y 10), .ref (w 1), .ref (w 2), .ref (w 3), .ref (w 4), .ref (w 5)])), ((w 1), .inl (k 0, 10, .inl (g 1))), ((w 3), .inl (k 0, 60, .inl (g 3))), (o, .inr (2, [.int it, .int sz_, .ref q, .int so])), (q, .inl (k 1, 40, .inr (.inl lf)))])) (va_A [((mo 0), .inr (1, [.ref (mo 1), .int ms])), ((mo 1), .inl (k 0, 10, .inl of)), ((w 0), .inr (5, [.int (y 0), .int (y 1), .int (y 2), .int (y 3), .int (y 4), .int (y 5), .int (y 6), .int (y 7), .int (y 8), .int (y 9), .int (y 10), .ref (w 1), .ref (w 2), .ref (w 3), .ref (w 4), .ref (w 5)])), ((w 1), .inl (k 0, 10, .inl (g 1))), ((w 3), .inl (k 0, 60, .inl (g 3))), (o, .inr (2, [.int it, .int sz_, .ref q, .int so])), (q, .inl (k 1, 40, .inr (.inl lf)))] sz)) 0 0 (va_A [((mo 0), .inr (1, [.ref (mo 1), .int ms])), ((mo 1), .inl (k 0, 10, .inl of)), ((w 0), .inr (5, [.int (y 0), .int (y 1), .int (y 2), .int (y 3), .int (y 4), .int (y 5), .int (y 6), .int (y 7), .int (y 8), .int (y 9), .int (y 10), .ref (w 1), .ref (w 2), .ref (w 3), .ref (w 4), .ref (w 5)])), ((w 1), .inl (k 0, 10, .inl (g 1))), ((w 3), .inl (k 0, 60, .inl (g 3))), (o, .inr (2, [.int it, .int sz_, .ref q, .int so])), (q, .inl (k 1, 40, .inr (.inl lf)))] sz) := by
  refine Met.ofW (cc := cX2_findBest) (maxL := 8) (ret := none) (by decide) rfl ?_
  intro p e s m args below meth c s₁ B hml hv
  obtain ⟨rfl, hsz, hP, hK, hD0, hN0⟩ := hv
  have hx := B.exec
  have hb := B.bytes
  have hr := B.returns
  have hts : ∀ w ∈ wsL_law, w.before _ s = true := fun w h => atoms_spec (ws := Cond.code yX2_findBest cX2_findBest 8 none :: wsL_law) B.pre w (List.mem_cons_of_mem _ h)
  have hown : s.vm.findClass RX2 = some m.cls := findClass_of_methodNamed B.named
  have hlocks := B.notSynchronized
  subst hsz
  have hD := hD0.self (sz := s.heap.size)
  generalize hAe : va_A [((mo 0), .inr (1, [.ref (mo 1), .int ms])), ((mo 1), .inl (k 0, 10, .inl of)), ((w 0), .inr (5, [.int (y 0), .int (y 1), .int (y 2), .int (y 3), .int (y 4), .int (y 5), .int (y 6), .int (y 7), .int (y 8), .int (y 9), .int (y 10), .ref (w 1), .ref (w 2), .ref (w 3), .ref (w 4), .ref (w 5)])), ((w 1), .inl (k 0, 10, .inl (g 1))), ((w 3), .inl (k 0, 60, .inl (g 3))), (o, .inr (2, [.int it, .int sz_, .ref q, .int so])), (q, .inl (k 1, 40, .inr (.inl lf)))] s.heap.size = A at hD ⊢
  have hA : ∀ q : Nat, s.heap.size ≤ q → A q := fun q h => by rw [← hAe]; exact Or.inr h
  have hS : va_S A s.heap s.heap [] := va_S.rf
  have hP : va_P D vwCl [((mo 0), .inr (1, [.ref (mo 1), .int ms])), ((mo 1), .inl (k 0, 10, .inl of)), ((w 0), .inr (5, [.int (y 0), .int (y 1), .int (y 2), .int (y 3), .int (y 4), .int (y 5), .int (y 6), .int (y 7), .int (y 8), .int (y 9), .int (y 10), .ref (w 1), .ref (w 2), .ref (w 3), .ref (w 4), .ref (w 5)])), ((w 1), .inl (k 0, 10, .inl (g 1))), ((w 3), .inl (k 0, 60, .inl (g 3))), (o, .inr (2, [.int it, .int sz_, .ref q, .int so])), (q, .inl (k 1, 40, .inr (.inl lf)))] s.heap := hP
  have hl := lv_entry ([.ref (mo 0), .ref (w 0), .ref o]) (n := 8) (Nat.le_of_ble_eq_true rfl)
  rw [lg_entry_eq]
  generalize (lg_sl ([.ref (mo 0), .ref (w 0), .ref o]) ++ List.replicate (8 - (lg_sl ([.ref (mo 0), .ref (w 0), .ref o])).length) Slot.unset).toArray = ls at hl ⊢
  have hl : lv_has ls 8 [(0, .ref (mo 0)), (1, .ref (w 0)), (2, .ref o)] := hl
  refine lv_aload_n hx hb dX2_findBest_0 rfl (lv_at hl 1 rfl) ?_
  refine kV_i (q0 := 0) (As := []) (rest := []) ⟨hx, hb, hml, hown, hts⟩ (s_W_thatched l D k _ y (show 0 ≤ (y 0).toInt ∧ (y 0).toInt ≤ 10 from ⟨by omega, by omega⟩) (show 0 ≤ (y 2).toInt ∧ (y 2).toInt ≤ 6 from ⟨by omega, by omega⟩) (show 0 ≤ (y 6).toInt ∧ (y 6).toInt ≤ 1 from ⟨by omega, by omega⟩)) (gV mw_983 mw_720 mw_721 mw_19 mw_722) hd_yX6_thatched rfl rfl ⟨Nat.le_of_ble_eq_true rfl, Nat.le_of_ble_eq_true rfl⟩ hK hN0 (hP.sub [2] rfl) rfl rfl rfl rfl hl.1 rfl (Nat.le_of_ble_eq_true rfl) dX2_findBest_1 ⟨Nat.le_of_ble_eq_true rfl, Nat.le_of_ble_eq_true rfl⟩ (fun r_1 hr_1 => ?_)
  have hr_1 : 0 ≤ r_1.toInt ∧ r_1.toInt ≤ 1023 := hr_1
  refine lv_istore_n (lv' := [(3, .int r_1), (0, .ref (mo 0)), (1, .ref (w 0)), (2, .ref o)]) hx hb dX2_findBest_4 rfl hl (by decide) rfl (fun ls hl => ?_)
  refine lv_aload_n hx hb dX2_findBest_5 rfl (lv_at hl 2 rfl) ?_
  refine kV_i (q0 := 0) (As := []) (rest := []) ⟨hx, hb, hml, hown, hts⟩ (s_W_leaking l D k _ y g (show 0 ≤ (y 0).toInt ∧ (y 0).toInt ≤ 10 from ⟨by omega, by omega⟩) (show 0 ≤ (y 2).toInt ∧ (y 2).toInt ≤ 6 from ⟨by omega, by omega⟩) (show 0 ≤ (y 6).toInt ∧ (y 6).toInt ≤ 1 from ⟨by omega, by omega⟩) (show ∀ j : Nat, 0 ≤ ((g 1) j).toInt ∧ ((g 1) j).toInt ≤ 6 from w_hd)) (gV mw_984 mw_507 mw_508 mw_19 mw_509) hd_yX6_leaking rfl rfl ⟨Nat.le_of_ble_eq_true rfl, Nat.le_of_ble_eq_true rfl⟩ hK hN0 (hP.sub [2, 3, 4] rfl) rfl rfl rfl rfl hl.1 rfl (Nat.le_of_ble_eq_true rfl) dX2_findBest_6 ⟨Nat.le_of_ble_eq_true rfl, Nat.le_of_ble_eq_true rfl⟩ (fun r_2 hr_2 => ?_)
  refine lv_istore (lv' := [(4, .int r_2), (3, .int r_1), (0, .ref (mo 0)), (1, .ref (w 0)), (2, .ref o)]) hx hb dX2_findBest_9 hl (by decide) rfl (fun ls hl => ?_)
  refine lv_aload_n hx hb dX2_findBest_11 rfl (lv_at hl 2 rfl) ?_
  refine lv_iconst (v := 0) hx hb dX2_findBest_12 (by decide) ?_
  refine va_put (D := D) (ci := 1) (v := .int 0) (ty := .int) (C := RX2) (T := TX2) (N := 2) hx hb hts inlX2 tyX2 tyX2_ok nmX2 hown hK hP hD hS 0 rfl rfl 1 (by decide) (hts _ mw_982) (fun _ h9 => h9) rfl (by decide +kernel) rfl rfl (Nat.le_of_ble_eq_true rfl) dX2_findBest_13 (fun H locs hP hD hS => ?_)
  have hP : va_P D vwCl [((mo 0), .inr (1, [.ref (mo 1), .int 0])), ((mo 1), .inl (k 0, 10, .inl of)), ((w 0), .inr (5, [.int (y 0), .int (y 1), .int (y 2), .int (y 3), .int (y 4), .int (y 5), .int (y 6), .int (y 7), .int (y 8), .int (y 9), .int (y 10), .ref (w 1), .ref (w 2), .ref (w 3), .ref (w 4), .ref (w 5)])), ((w 1), .inl (k 0, 10, .inl (g 1))), ((w 3), .inl (k 0, 60, .inl (g 3))), (o, .inr (2, [.int it, .int sz_, .ref q, .int so])), (q, .inl (k 1, 40, .inr (.inl lf)))] H := hP
  have hD : va_D A [((mo 0), .inr (1, [.ref (mo 1), .int 0])), ((mo 1), .inl (k 0, 10, .inl of)), ((w 0), .inr (5, [.int (y 0), .int (y 1), .int (y 2), .int (y 3), .int (y 4), .int (y 5), .int (y 6), .int (y 7), .int (y 8), .int (y 9), .int (y 10), .ref (w 1), .ref (w 2), .ref (w 3), .ref (w 4), .ref (w 5)])), ((w 1), .inl (k 0, 10, .inl (g 1))), ((w 3), .inl (k 0, 60, .inl (g 3))), (o, .inr (2, [.int it, .int sz_, .ref q, .int so])), (q, .inl (k 1, 40, .inr (.inl lf)))] := hD
  refine W_loop (σ := Int32 × (Nat → Int32) × Int32) (fun xx H locs ls => (0 ≤ xx.1.toInt ∧ xx.1.toInt ≤ 10) ∧ (∀ j : Nat, 0 ≤ (xx.2.1 j).toInt ∧ (xx.2.1 j).toInt ≤ 9) ∧ (0 ≤ xx.2.2.toInt ∧ xx.2.2.toInt ≤ 1023) ∧ va_P D vwCl [((mo 0), .inr (1, [.ref (mo 1), .int xx.1])), ((mo 1), .inl (k 0, 10, .inl xx.2.1)), ((w 0), .inr (5, [.int (y 0), .int (y 1), .int (y 2), .int (y 3), .int (y 4), .int (y 5), .int (y 6), .int (y 7), .int (y 8), .int (y 9), .int (y 10), .ref (w 1), .ref (w 2), .ref (w 3), .ref (w 4), .ref (w 5)])), ((w 1), .inl (k 0, 10, .inl (g 1))), ((w 3), .inl (k 0, 60, .inl (g 3))), (o, .inr (2, [.int it, .int sz_, .ref q, .int so])), (q, .inl (k 1, 40, .inr (.inl lf)))] H ∧ va_D A [((mo 0), .inr (1, [.ref (mo 1), .int xx.1])), ((mo 1), .inl (k 0, 10, .inl xx.2.1)), ((w 0), .inr (5, [.int (y 0), .int (y 1), .int (y 2), .int (y 3), .int (y 4), .int (y 5), .int (y 6), .int (y 7), .int (y 8), .int (y 9), .int (y 10), .ref (w 1), .ref (w 2), .ref (w 3), .ref (w 4), .ref (w 5)])), ((w 1), .inl (k 0, 10, .inl (g 1))), ((w 3), .inl (k 0, 60, .inl (g 3))), (o, .inr (2, [.int it, .int sz_, .ref q, .int so])), (q, .inl (k 1, 40, .inr (.inl lf)))] ∧ va_S A s.heap H locs ∧ lv_has ls 8 [(4, .int r_2), (3, .int xx.2.2), (0, .ref (mo 0)), (1, .ref (w 0)), (2, .ref o)]) (fun xx => (10 - xx.1.toInt).toNat) ?_ (0, of, r_1) _ _ ls ⟨(show 0 ≤ (0 : Int32).toInt ∧ (0 : Int32).toInt ≤ 10 from ⟨by decide, by decide⟩), w_hof, (show 0 ≤ r_1.toInt ∧ r_1.toInt ≤ 1023 from ⟨by omega, by omega⟩), hP.sub [0, 1, 2, 3, 4, 5, 6] rfl, hD.sub [0, 1, 2, 3, 4, 5, 6] (by decide) rfl, hS, lv_sub hl [0, 1, 2, 3, 4] rfl⟩
  intro xx H locs ls hI ih16
  obtain ⟨i_3, f_4, y_5⟩ := xx
  obtain ⟨h_6, h_7, h_8, hP, hD, hS, hl⟩ := hI
  have h_6 : 0 ≤ i_3.toInt ∧ i_3.toInt ≤ 10 := h_6
  have h_7 : ∀ j : Nat, 0 ≤ (f_4 j).toInt ∧ (f_4 j).toInt ≤ 9 := h_7
  have h_8 : 0 ≤ y_5.toInt ∧ y_5.toInt ≤ 1023 := h_8
  obtain ⟨h_6a, h_6b⟩ := h_6
  have hP : va_P D vwCl [((mo 0), .inr (1, [.ref (mo 1), .int i_3])), ((mo 1), .inl (k 0, 10, .inl f_4)), ((w 0), .inr (5, [.int (y 0), .int (y 1), .int (y 2), .int (y 3), .int (y 4), .int (y 5), .int (y 6), .int (y 7), .int (y 8), .int (y 9), .int (y 10), .ref (w 1), .ref (w 2), .ref (w 3), .ref (w 4), .ref (w 5)])), ((w 1), .inl (k 0, 10, .inl (g 1))), ((w 3), .inl (k 0, 60, .inl (g 3))), (o, .inr (2, [.int it, .int sz_, .ref q, .int so])), (q, .inl (k 1, 40, .inr (.inl lf)))] H := hP
  have hD : va_D A [((mo 0), .inr (1, [.ref (mo 1), .int i_3])), ((mo 1), .inl (k 0, 10, .inl f_4)), ((w 0), .inr (5, [.int (y 0), .int (y 1), .int (y 2), .int (y 3), .int (y 4), .int (y 5), .int (y 6), .int (y 7), .int (y 8), .int (y 9), .int (y 10), .ref (w 1), .ref (w 2), .ref (w 3), .ref (w 4), .ref (w 5)])), ((w 1), .inl (k 0, 10, .inl (g 1))), ((w 3), .inl (k 0, 60, .inl (g 3))), (o, .inr (2, [.int it, .int sz_, .ref q, .int so])), (q, .inl (k 1, 40, .inr (.inl lf)))] := hD
  have hl : lv_has ls 8 [(4, .int r_2), (3, .int y_5), (0, .ref (mo 0)), (1, .ref (w 0)), (2, .ref o)] := hl
  refine lv_iload_n hx hb dX2_findBest_16 rfl (lv_at hl 1 rfl) ?_
  refine lv_if_eq (tgt := 112) hx hb dX2_findBest_17 (by decide) (fun c_9 => ?_) (fun c_9 => ?_)
  · have c_9 : y_5.toInt = 0 := ti_eq c_9
    have qc_9 : y_5 = 0 := ti_of (show y_5.toInt = 0 from by omega)
    exact W.vret hx hb hr (fun t ht hW => ⟨⟨(i_3, f_4), rfl, ⟨(show 0 ≤ i_3.toInt ∧ i_3.toInt ≤ 10 from ⟨by omega, by omega⟩), (show ∀ j : Nat, 0 ≤ (f_4 j).toInt ∧ (f_4 j).toInt ≤ 9 from h_7)⟩, by rw [ht]; exact hP.sub [0, 1, 2, 3, 4, 5, 6] rfl, hD.sub [0, 1, 2, 3, 4, 5, 6] (by decide) rfl⟩, hS.F ht⟩) hS.2.2 dX2_findBest_112
  · have c_9 : y_5.toInt ≠ 0 := ti_ne c_9
    refine lv_aload_n hx hb dX2_findBest_20 rfl (lv_at hl 2 rfl) ?_
    refine va_get (D := D) (ci := 1) (v := .int i_3) (C := RX2) (T := TX2) (N := 2) hx hb hts inlX2 hown hK hP 0 rfl rfl 1 (by decide) (hts _ mw_982) (fun _ h9 => h9) rfl dX2_findBest_21 ?_
    refine lv_bipush (v := 10) hx hb dX2_findBest_24 (by decide) ?_
    refine lv_icmp_ge (tgt := 112) hx hb dX2_findBest_26 (by decide) (fun c_10 => ?_) (fun c_10 => ?_)
    · have c_10 : 10 ≤ i_3.toInt := ti_le c_10
      have qc_10 : i_3 = 10 := ti_of (show i_3.toInt = 10 from by omega)
      exact W.vret hx hb hr (fun t ht hW => ⟨⟨(i_3, f_4), rfl, ⟨(show 0 ≤ i_3.toInt ∧ i_3.toInt ≤ 10 from ⟨by omega, by omega⟩), (show ∀ j : Nat, 0 ≤ (f_4 j).toInt ∧ (f_4 j).toInt ≤ 9 from h_7)⟩, by rw [ht]; exact hP.sub [0, 1, 2, 3, 4, 5, 6] rfl, hD.sub [0, 1, 2, 3, 4, 5, 6] (by decide) rfl⟩, hS.F ht⟩) hS.2.2 dX2_findBest_112
    · have c_10 : i_3.toInt < 10 := ti_nle c_10
      refine lv_iload_n hx hb dX2_findBest_29 rfl (lv_at hl 1 rfl) ?_
      refine lv_iload hx hb dX2_findBest_30 (lv_at hl 0 rfl) ?_
      refine lv_iand hx hb dX2_findBest_32 ?_
      refine lv_topi (fun z_11 ez_11 => ?_)
      have tz_11 : 0 ≤ z_11.toInt ∧ z_11.toInt ≤ y_5.toInt := by rw [ez_11]; exact and_bl (by omega) (Int.le_refl _)
      refine lv_istore (lv' := [(5, .int z_11), (4, .int r_2), (3, .int y_5), (0, .ref (mo 0)), (1, .ref (w 0)), (2, .ref o)]) hx hb dX2_findBest_33 hl (by decide) rfl (fun ls hl => ?_)
      by_cases c_12 : z_11.toInt = 0
      · have qc_12 : z_11 = 0 := ti_of (show z_11.toInt = 0 from c_12)
        refine lv_aload_n hx hb dX2_findBest_35 rfl (lv_at hl 5 rfl) ?_
        refine lv_aload_n hx hb dX2_findBest_36 rfl (lv_at hl 3 rfl) ?_
        refine va_get (D := D) (ci := 1) (v := .int i_3) (C := RX2) (T := TX2) (N := 2) hx hb hts inlX2 hown hK hP 0 rfl rfl 1 (by decide) (hts _ mw_982) (fun _ h9 => h9) rfl dX2_findBest_37 ?_
        refine lv_aload_n hx hb dX2_findBest_40 rfl (lv_at hl 3 rfl) ?_
        refine va_get (D := D) (ci := 1) (v := .int i_3) (C := RX2) (T := TX2) (N := 2) hx hb hts inlX2 hown hK hP 0 rfl rfl 1 (by decide) (hts _ mw_982) (fun _ h9 => h9) rfl dX2_findBest_41 ?_
        refine lv_iload hx hb dX2_findBest_44 (lv_at hl 0 rfl) ?_
        refine lv_ni (v := 0) (qc_12) ?_
        refine kS_i (As := [.int 0]) (rest := [.int i_3, .int i_3, .ref o]) ⟨hx, hb, hml, hown, hts⟩ (s_J_bitCount0 l D k ) (gS mw_985 mw_725 mw_726 mw_727) hd_yJ6_bitCount_0f7a4 rfl rfl ⟨Nat.le_of_ble_eq_true rfl, Nat.le_of_ble_eq_true rfl⟩ hK hN0 (hP.sub [] rfl) rfl hl.1 rfl (Nat.le_of_ble_eq_true rfl) dX2_findBest_46 ⟨Nat.le_of_ble_eq_true rfl, Nat.le_of_ble_eq_true rfl⟩ (fun r_13 hr_13 => ?_)
        obtain rfl : r_13 = 0 := hr_13
        refine lv_iadd hx hb dX2_findBest_49 ?_
        refine lv_ni (v := i_3) (iadd_0 _) ?_
        refine kV_i (q0 := 0) (As := [.int i_3, .int i_3]) (rest := []) ⟨hx, hb, hml, hown, hts⟩ (s_N_rains0 l D k o q it sz_ so lf i_3 (show 0 ≤ sz_.toInt ∧ sz_.toInt ≤ 40 from ⟨by omega, by omega⟩) (show 0 ≤ i_3.toInt ∧ i_3.toInt ≤ 10 from ⟨by omega, by omega⟩)) (gV mw_986 mw_987 mw_988 mw_42 mw_989) hd_yX3_rainsBetween rfl rfl ⟨Nat.le_of_ble_eq_true rfl, Nat.le_of_ble_eq_true rfl⟩ hK hN0 (hP.sub [5, 6] rfl) rfl rfl rfl rfl hl.1 rfl (Nat.le_of_ble_eq_true rfl) dX2_findBest_50 ⟨Nat.le_of_ble_eq_true rfl, Nat.le_of_ble_eq_true rfl⟩ (fun r_14 hr_14 => ?_)
        obtain rfl : r_14 = 0 := hr_14
        refine lv_if_le (tgt := 60) hx hb dX2_findBest_53 (by decide) (fun _ => ?_) (fun c9 => absurd c9 (by decide))
        refine lv_iconst (v := 0) hx hb dX2_findBest_60 (by decide) ?_
        refine lv_istore (lv' := [(6, .int 0), (5, .int z_11), (4, .int r_2), (3, .int y_5), (0, .ref (mo 0)), (1, .ref (w 0)), (2, .ref o)]) hx hb dX2_findBest_61 hl (by decide) rfl (fun ls hl => ?_)
        refine lv_iload hx hb dX2_findBest_63 (lv_at hl 0 rfl) ?_
        refine lv_if_eq (tgt := 73) hx hb dX2_findBest_65 (by decide) (fun _ => ?_) (fun c9 => absurd c9 (by decide))
        refine lv_iload_n hx hb dX2_findBest_73 rfl (lv_at hl 3 rfl) ?_
        refine kS_i (As := [.int y_5]) (rest := []) ⟨hx, hb, hml, hown, hts⟩ (s_J_ntz l D k y_5 (show 1 ≤ y_5.toInt ∧ y_5.toInt ≤ 1023 from ⟨by omega, by omega⟩)) (gS mw_991 mw_992 mw_726 mw_993) hd_yJ6_numberOfTrailingZeros_0f7a4 rfl rfl ⟨Nat.le_of_ble_eq_true rfl, Nat.le_of_ble_eq_true rfl⟩ hK hN0 (hP.sub [] rfl) rfl hl.1 rfl (Nat.le_of_ble_eq_true rfl) dX2_findBest_74 ⟨Nat.le_of_ble_eq_true rfl, Nat.le_of_ble_eq_true rfl⟩ (fun r_15 hr_15 => ?_)
        have hr_15 : 0 ≤ r_15.toInt ∧ r_15.toInt ≤ 9 := hr_15
        refine lv_istore (lv' := [(7, .int r_15), (6, .int 0), (5, .int z_11), (4, .int r_2), (3, .int y_5), (0, .ref (mo 0)), (1, .ref (w 0)), (2, .ref o)]) hx hb dX2_findBest_77 hl (by decide) rfl (fun ls hl => ?_)
        refine lv_aload_n hx hb dX2_findBest_79 rfl (lv_at hl 5 rfl) ?_
        refine va_get (D := D) (ci := 1) (v := .ref (mo 1)) (C := RX2) (T := TX2) (N := 2) hx hb hts inlX2 hown hK hP 0 rfl rfl 0 (by decide) (hts _ mw_69) (fun _ h9 => h9) rfl dX2_findBest_80 ?_
        refine lv_aload_n hx hb dX2_findBest_83 rfl (lv_at hl 5 rfl) ?_
        refine va_get (D := D) (ci := 1) (v := .int i_3) (C := RX2) (T := TX2) (N := 2) hx hb hts inlX2 hown hK hP 0 rfl rfl 1 (by decide) (hts _ mw_982) (fun _ h9 => h9) rfl dX2_findBest_84 ?_
        refine lv_iload hx hb dX2_findBest_87 (lv_at hl 0 rfl) ?_
        refine va_iast hx hb hK hP hD hS 1 0 rfl rfl (vp_in_o (by omega) (by omega)) dX2_findBest_89 (fun H locs hP hD hS => ?_)
        have hP : va_P D vwCl [((mo 0), .inr (1, [.ref (mo 1), .int i_3])), ((mo 1), .inl (k 0, 10, .inl (upd f_4 i_3.toNatClampNeg r_15))), ((w 0), .inr (5, [.int (y 0), .int (y 1), .int (y 2), .int (y 3), .int (y 4), .int (y 5), .int (y 6), .int (y 7), .int (y 8), .int (y 9), .int (y 10), .ref (w 1), .ref (w 2), .ref (w 3), .ref (w 4), .ref (w 5)])), ((w 1), .inl (k 0, 10, .inl (g 1))), ((w 3), .inl (k 0, 60, .inl (g 3))), (o, .inr (2, [.int it, .int sz_, .ref q, .int so])), (q, .inl (k 1, 40, .inr (.inl lf)))] H := hP
        have hD : va_D A [((mo 0), .inr (1, [.ref (mo 1), .int i_3])), ((mo 1), .inl (k 0, 10, .inl (upd f_4 i_3.toNatClampNeg r_15))), ((w 0), .inr (5, [.int (y 0), .int (y 1), .int (y 2), .int (y 3), .int (y 4), .int (y 5), .int (y 6), .int (y 7), .int (y 8), .int (y 9), .int (y 10), .ref (w 1), .ref (w 2), .ref (w 3), .ref (w 4), .ref (w 5)])), ((w 1), .inl (k 0, 10, .inl (g 1))), ((w 3), .inl (k 0, 60, .inl (g 3))), (o, .inr (2, [.int it, .int sz_, .ref q, .int so])), (q, .inl (k 1, 40, .inr (.inl lf)))] := hD
        generalize ef_16 : (upd f_4 i_3.toNatClampNeg r_15) = f_16 at hP hD
        have hf_16 : ∀ j : Nat, 0 ≤ (f_16 j).toInt ∧ (f_16 j).toInt ≤ 9 := by rw [← ef_16]; exact upd_rng h_7 ⟨by omega, by omega⟩
        refine lv_iload_n hx hb dX2_findBest_90 rfl (lv_at hl 4 rfl) ?_
        refine lv_iconst (v := 1) hx hb dX2_findBest_91 (by decide) ?_
        refine lv_iload hx hb dX2_findBest_92 (lv_at hl 0 rfl) ?_
        refine lv_ishl hx hb dX2_findBest_94 ?_
        refine lv_topi (fun z_17 ez_17 => ?_)
        refine lv_iconst (v := (-1)) hx hb dX2_findBest_95 (by decide) ?_
        refine lv_ixor hx hb dX2_findBest_96 ?_
        refine lv_topi (fun z_18 ez_18 => ?_)
        refine lv_iand hx hb dX2_findBest_97 ?_
        refine lv_topi (fun z_19 ez_19 => ?_)
        have tz_19 : 0 ≤ z_19.toInt ∧ z_19.toInt ≤ y_5.toInt := by rw [ez_19]; exact and_bl (by omega) (Int.le_refl _)
        refine lv_istore_n (lv' := [(3, .int z_19), (7, .int r_15), (6, .int 0), (5, .int z_11), (4, .int r_2), (0, .ref (mo 0)), (1, .ref (w 0)), (2, .ref o)]) hx hb dX2_findBest_98 rfl hl (by decide) rfl (fun ls hl => ?_)
        refine lv_aload_n hx hb dX2_findBest_99 rfl (lv_at hl 5 rfl) ?_
        refine lv_dup hx hb dX2_findBest_100 rfl ?_
        refine va_get (D := D) (ci := 1) (v := .int i_3) (C := RX2) (T := TX2) (N := 2) hx hb hts inlX2 hown hK hP 0 rfl rfl 1 (by decide) (hts _ mw_982) (fun _ h9 => h9) rfl dX2_findBest_101 ?_
        refine lv_iconst (v := 1) hx hb dX2_findBest_104 (by decide) ?_
        refine lv_iadd hx hb dX2_findBest_105 ?_
        refine lv_topi (fun z_20 ez_20 => ?_)
        have tz_20 : z_20.toInt = i_3.toInt + 1 := by rw [ez_20]; exact ti_addc (by decide) (by omega) (by omega)
        refine va_put (D := D) (ci := 1) (v := .int z_20) (ty := .int) (C := RX2) (T := TX2) (N := 2) hx hb hts inlX2 tyX2 tyX2_ok nmX2 hown hK hP hD hS 0 rfl rfl 1 (by decide) (hts _ mw_982) (fun _ h9 => h9) rfl (by decide +kernel) rfl rfl (Nat.le_of_ble_eq_true rfl) dX2_findBest_106 (fun H locs hP hD hS => ?_)
        have hP : va_P D vwCl [((mo 0), .inr (1, [.ref (mo 1), .int z_20])), ((mo 1), .inl (k 0, 10, .inl f_16)), ((w 0), .inr (5, [.int (y 0), .int (y 1), .int (y 2), .int (y 3), .int (y 4), .int (y 5), .int (y 6), .int (y 7), .int (y 8), .int (y 9), .int (y 10), .ref (w 1), .ref (w 2), .ref (w 3), .ref (w 4), .ref (w 5)])), ((w 1), .inl (k 0, 10, .inl (g 1))), ((w 3), .inl (k 0, 60, .inl (g 3))), (o, .inr (2, [.int it, .int sz_, .ref q, .int so])), (q, .inl (k 1, 40, .inr (.inl lf)))] H := hP
        have hD : va_D A [((mo 0), .inr (1, [.ref (mo 1), .int z_20])), ((mo 1), .inl (k 0, 10, .inl f_16)), ((w 0), .inr (5, [.int (y 0), .int (y 1), .int (y 2), .int (y 3), .int (y 4), .int (y 5), .int (y 6), .int (y 7), .int (y 8), .int (y 9), .int (y 10), .ref (w 1), .ref (w 2), .ref (w 3), .ref (w 4), .ref (w 5)])), ((w 1), .inl (k 0, 10, .inl (g 1))), ((w 3), .inl (k 0, 60, .inl (g 3))), (o, .inr (2, [.int it, .int sz_, .ref q, .int so])), (q, .inl (k 1, 40, .inr (.inl lf)))] := hD
        refine lv_goto (tgt := 16) hx hb dX2_findBest_109 (by decide) ?_
        exact ih16 (z_20, f_16, z_19) _ _ ls (by show (10 - z_20.toInt).toNat < (10 - i_3.toInt).toNat; omega) ⟨(show 0 ≤ z_20.toInt ∧ z_20.toInt ≤ 10 from ⟨by omega, by omega⟩), hf_16, (show 0 ≤ z_19.toInt ∧ z_19.toInt ≤ 1023 from ⟨by omega, by omega⟩), hP.sub [0, 1, 2, 3, 4, 5, 6] rfl, hD.sub [0, 1, 2, 3, 4, 5, 6] (by decide) rfl, hS, lv_sub hl [4, 0, 5, 6, 7] rfl⟩
      · skip
        refine lv_aload_n hx hb dX2_findBest_35 rfl (lv_at hl 5 rfl) ?_
        refine lv_aload_n hx hb dX2_findBest_36 rfl (lv_at hl 3 rfl) ?_
        refine va_get (D := D) (ci := 1) (v := .int i_3) (C := RX2) (T := TX2) (N := 2) hx hb hts inlX2 hown hK hP 0 rfl rfl 1 (by decide) (hts _ mw_982) (fun _ h9 => h9) rfl dX2_findBest_37 ?_
        refine lv_aload_n hx hb dX2_findBest_40 rfl (lv_at hl 3 rfl) ?_
        refine va_get (D := D) (ci := 1) (v := .int i_3) (C := RX2) (T := TX2) (N := 2) hx hb hts inlX2 hown hK hP 0 rfl rfl 1 (by decide) (hts _ mw_982) (fun _ h9 => h9) rfl dX2_findBest_41 ?_
        refine lv_iload hx hb dX2_findBest_44 (lv_at hl 0 rfl) ?_
        refine kS_i (As := [.int z_11]) (rest := [.int i_3, .int i_3, .ref o]) ⟨hx, hb, hml, hown, hts⟩ (s_J_bitCount l D k z_11) (gS mw_985 mw_725 mw_726 mw_727) hd_yJ6_bitCount_0f7a4 rfl rfl ⟨Nat.le_of_ble_eq_true rfl, Nat.le_of_ble_eq_true rfl⟩ hK hN0 (hP.sub [] rfl) rfl hl.1 rfl (Nat.le_of_ble_eq_true rfl) dX2_findBest_46 ⟨Nat.le_of_ble_eq_true rfl, Nat.le_of_ble_eq_true rfl⟩ (fun r_21 hr_21 => ?_)
        have hr_21 : 0 ≤ r_21.toInt ∧ r_21.toInt ≤ 63 := hr_21
        refine lv_iadd hx hb dX2_findBest_49 ?_
        refine lv_topi (fun z_22 ez_22 => ?_)
        have tz_22 : z_22.toInt = i_3.toInt + r_21.toInt := by rw [ez_22]; exact ti_add (by omega) (by omega)
        refine kV_i (q0 := 0) (As := [.int i_3, .int z_22]) (rest := []) ⟨hx, hb, hml, hown, hts⟩ (s_N_rains l D k o q it sz_ so lf i_3 z_22 (show 0 ≤ sz_.toInt ∧ sz_.toInt ≤ 40 from ⟨by omega, by omega⟩) (show 0 ≤ i_3.toInt ∧ i_3.toInt ≤ 10 from ⟨by omega, by omega⟩)) (gV mw_986 mw_987 mw_988 mw_42 mw_989) hd_yX3_rainsBetween rfl rfl ⟨Nat.le_of_ble_eq_true rfl, Nat.le_of_ble_eq_true rfl⟩ hK hN0 (hP.sub [5, 6] rfl) rfl rfl rfl rfl hl.1 rfl (Nat.le_of_ble_eq_true rfl) dX2_findBest_50 ⟨Nat.le_of_ble_eq_true rfl, Nat.le_of_ble_eq_true rfl⟩ (fun r_23 hr_23 => ?_)
        refine lv_if_le (tgt := 60) hx hb dX2_findBest_53 (by decide) (fun c_24 => ?_) (fun c_24 => ?_)
        · have c_24 : r_23.toInt ≤ 0 := ti_le c_24
          refine lv_iconst (v := 0) hx hb dX2_findBest_60 (by decide) ?_
          refine lv_istore (lv' := [(6, .int 0), (5, .int z_11), (4, .int r_2), (3, .int y_5), (0, .ref (mo 0)), (1, .ref (w 0)), (2, .ref o)]) hx hb dX2_findBest_61 hl (by decide) rfl (fun ls hl => ?_)
          refine lv_iload hx hb dX2_findBest_63 (lv_at hl 0 rfl) ?_
          refine lv_if_eq (tgt := 73) hx hb dX2_findBest_65 (by decide) (fun _ => ?_) (fun c9 => absurd c9 (by decide))
          refine lv_iload_n hx hb dX2_findBest_73 rfl (lv_at hl 3 rfl) ?_
          refine kS_i (As := [.int y_5]) (rest := []) ⟨hx, hb, hml, hown, hts⟩ (s_J_ntz l D k y_5 (show 1 ≤ y_5.toInt ∧ y_5.toInt ≤ 1023 from ⟨by omega, by omega⟩)) (gS mw_991 mw_992 mw_726 mw_993) hd_yJ6_numberOfTrailingZeros_0f7a4 rfl rfl ⟨Nat.le_of_ble_eq_true rfl, Nat.le_of_ble_eq_true rfl⟩ hK hN0 (hP.sub [] rfl) rfl hl.1 rfl (Nat.le_of_ble_eq_true rfl) dX2_findBest_74 ⟨Nat.le_of_ble_eq_true rfl, Nat.le_of_ble_eq_true rfl⟩ (fun r_25 hr_25 => ?_)
          have hr_25 : 0 ≤ r_25.toInt ∧ r_25.toInt ≤ 9 := hr_25
          refine lv_istore (lv' := [(7, .int r_25), (6, .int 0), (5, .int z_11), (4, .int r_2), (3, .int y_5), (0, .ref (mo 0)), (1, .ref (w 0)), (2, .ref o)]) hx hb dX2_findBest_77 hl (by decide) rfl (fun ls hl => ?_)
          refine lv_aload_n hx hb dX2_findBest_79 rfl (lv_at hl 5 rfl) ?_
          refine va_get (D := D) (ci := 1) (v := .ref (mo 1)) (C := RX2) (T := TX2) (N := 2) hx hb hts inlX2 hown hK hP 0 rfl rfl 0 (by decide) (hts _ mw_69) (fun _ h9 => h9) rfl dX2_findBest_80 ?_
          refine lv_aload_n hx hb dX2_findBest_83 rfl (lv_at hl 5 rfl) ?_
          refine va_get (D := D) (ci := 1) (v := .int i_3) (C := RX2) (T := TX2) (N := 2) hx hb hts inlX2 hown hK hP 0 rfl rfl 1 (by decide) (hts _ mw_982) (fun _ h9 => h9) rfl dX2_findBest_84 ?_
          refine lv_iload hx hb dX2_findBest_87 (lv_at hl 0 rfl) ?_
          refine va_iast hx hb hK hP hD hS 1 0 rfl rfl (vp_in_o (by omega) (by omega)) dX2_findBest_89 (fun H locs hP hD hS => ?_)
          have hP : va_P D vwCl [((mo 0), .inr (1, [.ref (mo 1), .int i_3])), ((mo 1), .inl (k 0, 10, .inl (upd f_4 i_3.toNatClampNeg r_25))), ((w 0), .inr (5, [.int (y 0), .int (y 1), .int (y 2), .int (y 3), .int (y 4), .int (y 5), .int (y 6), .int (y 7), .int (y 8), .int (y 9), .int (y 10), .ref (w 1), .ref (w 2), .ref (w 3), .ref (w 4), .ref (w 5)])), ((w 1), .inl (k 0, 10, .inl (g 1))), ((w 3), .inl (k 0, 60, .inl (g 3))), (o, .inr (2, [.int it, .int sz_, .ref q, .int so])), (q, .inl (k 1, 40, .inr (.inl lf)))] H := hP
          have hD : va_D A [((mo 0), .inr (1, [.ref (mo 1), .int i_3])), ((mo 1), .inl (k 0, 10, .inl (upd f_4 i_3.toNatClampNeg r_25))), ((w 0), .inr (5, [.int (y 0), .int (y 1), .int (y 2), .int (y 3), .int (y 4), .int (y 5), .int (y 6), .int (y 7), .int (y 8), .int (y 9), .int (y 10), .ref (w 1), .ref (w 2), .ref (w 3), .ref (w 4), .ref (w 5)])), ((w 1), .inl (k 0, 10, .inl (g 1))), ((w 3), .inl (k 0, 60, .inl (g 3))), (o, .inr (2, [.int it, .int sz_, .ref q, .int so])), (q, .inl (k 1, 40, .inr (.inl lf)))] := hD
          generalize ef_26 : (upd f_4 i_3.toNatClampNeg r_25) = f_26 at hP hD
          have hf_26 : ∀ j : Nat, 0 ≤ (f_26 j).toInt ∧ (f_26 j).toInt ≤ 9 := by rw [← ef_26]; exact upd_rng h_7 ⟨by omega, by omega⟩
          refine lv_iload_n hx hb dX2_findBest_90 rfl (lv_at hl 4 rfl) ?_
          refine lv_iconst (v := 1) hx hb dX2_findBest_91 (by decide) ?_
          refine lv_iload hx hb dX2_findBest_92 (lv_at hl 0 rfl) ?_
          refine lv_ishl hx hb dX2_findBest_94 ?_
          refine lv_topi (fun z_27 ez_27 => ?_)
          refine lv_iconst (v := (-1)) hx hb dX2_findBest_95 (by decide) ?_
          refine lv_ixor hx hb dX2_findBest_96 ?_
          refine lv_topi (fun z_28 ez_28 => ?_)
          refine lv_iand hx hb dX2_findBest_97 ?_
          refine lv_topi (fun z_29 ez_29 => ?_)
          have tz_29 : 0 ≤ z_29.toInt ∧ z_29.toInt ≤ y_5.toInt := by rw [ez_29]; exact and_bl (by omega) (Int.le_refl _)
          refine lv_istore_n (lv' := [(3, .int z_29), (7, .int r_25), (6, .int 0), (5, .int z_11), (4, .int r_2), (0, .ref (mo 0)), (1, .ref (w 0)), (2, .ref o)]) hx hb dX2_findBest_98 rfl hl (by decide) rfl (fun ls hl => ?_)
          refine lv_aload_n hx hb dX2_findBest_99 rfl (lv_at hl 5 rfl) ?_
          refine lv_dup hx hb dX2_findBest_100 rfl ?_
          refine va_get (D := D) (ci := 1) (v := .int i_3) (C := RX2) (T := TX2) (N := 2) hx hb hts inlX2 hown hK hP 0 rfl rfl 1 (by decide) (hts _ mw_982) (fun _ h9 => h9) rfl dX2_findBest_101 ?_
          refine lv_iconst (v := 1) hx hb dX2_findBest_104 (by decide) ?_
          refine lv_iadd hx hb dX2_findBest_105 ?_
          refine lv_topi (fun z_30 ez_30 => ?_)
          have tz_30 : z_30.toInt = i_3.toInt + 1 := by rw [ez_30]; exact ti_addc (by decide) (by omega) (by omega)
          refine va_put (D := D) (ci := 1) (v := .int z_30) (ty := .int) (C := RX2) (T := TX2) (N := 2) hx hb hts inlX2 tyX2 tyX2_ok nmX2 hown hK hP hD hS 0 rfl rfl 1 (by decide) (hts _ mw_982) (fun _ h9 => h9) rfl (by decide +kernel) rfl rfl (Nat.le_of_ble_eq_true rfl) dX2_findBest_106 (fun H locs hP hD hS => ?_)
          have hP : va_P D vwCl [((mo 0), .inr (1, [.ref (mo 1), .int z_30])), ((mo 1), .inl (k 0, 10, .inl f_26)), ((w 0), .inr (5, [.int (y 0), .int (y 1), .int (y 2), .int (y 3), .int (y 4), .int (y 5), .int (y 6), .int (y 7), .int (y 8), .int (y 9), .int (y 10), .ref (w 1), .ref (w 2), .ref (w 3), .ref (w 4), .ref (w 5)])), ((w 1), .inl (k 0, 10, .inl (g 1))), ((w 3), .inl (k 0, 60, .inl (g 3))), (o, .inr (2, [.int it, .int sz_, .ref q, .int so])), (q, .inl (k 1, 40, .inr (.inl lf)))] H := hP
          have hD : va_D A [((mo 0), .inr (1, [.ref (mo 1), .int z_30])), ((mo 1), .inl (k 0, 10, .inl f_26)), ((w 0), .inr (5, [.int (y 0), .int (y 1), .int (y 2), .int (y 3), .int (y 4), .int (y 5), .int (y 6), .int (y 7), .int (y 8), .int (y 9), .int (y 10), .ref (w 1), .ref (w 2), .ref (w 3), .ref (w 4), .ref (w 5)])), ((w 1), .inl (k 0, 10, .inl (g 1))), ((w 3), .inl (k 0, 60, .inl (g 3))), (o, .inr (2, [.int it, .int sz_, .ref q, .int so])), (q, .inl (k 1, 40, .inr (.inl lf)))] := hD
          refine lv_goto (tgt := 16) hx hb dX2_findBest_109 (by decide) ?_
          exact ih16 (z_30, f_26, z_29) _ _ ls (by show (10 - z_30.toInt).toNat < (10 - i_3.toInt).toNat; omega) ⟨(show 0 ≤ z_30.toInt ∧ z_30.toInt ≤ 10 from ⟨by omega, by omega⟩), hf_26, (show 0 ≤ z_29.toInt ∧ z_29.toInt ≤ 1023 from ⟨by omega, by omega⟩), hP.sub [0, 1, 2, 3, 4, 5, 6] rfl, hD.sub [0, 1, 2, 3, 4, 5, 6] (by decide) rfl, hS, lv_sub hl [4, 0, 5, 6, 7] rfl⟩
        · have c_24 : 0 < r_23.toInt := ti_nle c_24
          refine lv_iconst (v := 1) hx hb dX2_findBest_56 (by decide) ?_
          refine lv_goto (tgt := 61) hx hb dX2_findBest_57 (by decide) ?_
          refine lv_istore (lv' := [(6, .int 1), (5, .int z_11), (4, .int r_2), (3, .int y_5), (0, .ref (mo 0)), (1, .ref (w 0)), (2, .ref o)]) hx hb dX2_findBest_61 hl (by decide) rfl (fun ls hl => ?_)
          refine lv_iload hx hb dX2_findBest_63 (lv_at hl 0 rfl) ?_
          refine lv_if_eq (tgt := 73) hx hb dX2_findBest_65 (by decide) (fun c9 => absurd c9 (by decide)) (fun _ => ?_)
          refine lv_iload hx hb dX2_findBest_68 (lv_at hl 1 rfl) ?_
          refine lv_goto (tgt := 74) hx hb dX2_findBest_70 (by decide) ?_
          refine kS_i (As := [.int z_11]) (rest := []) ⟨hx, hb, hml, hown, hts⟩ (s_J_ntz l D k z_11 (show 1 ≤ z_11.toInt ∧ z_11.toInt ≤ 1023 from ⟨by omega, by omega⟩)) (gS mw_991 mw_992 mw_726 mw_993) hd_yJ6_numberOfTrailingZeros_0f7a4 rfl rfl ⟨Nat.le_of_ble_eq_true rfl, Nat.le_of_ble_eq_true rfl⟩ hK hN0 (hP.sub [] rfl) rfl hl.1 rfl (Nat.le_of_ble_eq_true rfl) dX2_findBest_74 ⟨Nat.le_of_ble_eq_true rfl, Nat.le_of_ble_eq_true rfl⟩ (fun r_31 hr_31 => ?_)
          have hr_31 : 0 ≤ r_31.toInt ∧ r_31.toInt ≤ 9 := hr_31
          refine lv_istore (lv' := [(7, .int r_31), (6, .int 1), (5, .int z_11), (4, .int r_2), (3, .int y_5), (0, .ref (mo 0)), (1, .ref (w 0)), (2, .ref o)]) hx hb dX2_findBest_77 hl (by decide) rfl (fun ls hl => ?_)
          refine lv_aload_n hx hb dX2_findBest_79 rfl (lv_at hl 5 rfl) ?_
          refine va_get (D := D) (ci := 1) (v := .ref (mo 1)) (C := RX2) (T := TX2) (N := 2) hx hb hts inlX2 hown hK hP 0 rfl rfl 0 (by decide) (hts _ mw_69) (fun _ h9 => h9) rfl dX2_findBest_80 ?_
          refine lv_aload_n hx hb dX2_findBest_83 rfl (lv_at hl 5 rfl) ?_
          refine va_get (D := D) (ci := 1) (v := .int i_3) (C := RX2) (T := TX2) (N := 2) hx hb hts inlX2 hown hK hP 0 rfl rfl 1 (by decide) (hts _ mw_982) (fun _ h9 => h9) rfl dX2_findBest_84 ?_
          refine lv_iload hx hb dX2_findBest_87 (lv_at hl 0 rfl) ?_
          refine va_iast hx hb hK hP hD hS 1 0 rfl rfl (vp_in_o (by omega) (by omega)) dX2_findBest_89 (fun H locs hP hD hS => ?_)
          have hP : va_P D vwCl [((mo 0), .inr (1, [.ref (mo 1), .int i_3])), ((mo 1), .inl (k 0, 10, .inl (upd f_4 i_3.toNatClampNeg r_31))), ((w 0), .inr (5, [.int (y 0), .int (y 1), .int (y 2), .int (y 3), .int (y 4), .int (y 5), .int (y 6), .int (y 7), .int (y 8), .int (y 9), .int (y 10), .ref (w 1), .ref (w 2), .ref (w 3), .ref (w 4), .ref (w 5)])), ((w 1), .inl (k 0, 10, .inl (g 1))), ((w 3), .inl (k 0, 60, .inl (g 3))), (o, .inr (2, [.int it, .int sz_, .ref q, .int so])), (q, .inl (k 1, 40, .inr (.inl lf)))] H := hP
          have hD : va_D A [((mo 0), .inr (1, [.ref (mo 1), .int i_3])), ((mo 1), .inl (k 0, 10, .inl (upd f_4 i_3.toNatClampNeg r_31))), ((w 0), .inr (5, [.int (y 0), .int (y 1), .int (y 2), .int (y 3), .int (y 4), .int (y 5), .int (y 6), .int (y 7), .int (y 8), .int (y 9), .int (y 10), .ref (w 1), .ref (w 2), .ref (w 3), .ref (w 4), .ref (w 5)])), ((w 1), .inl (k 0, 10, .inl (g 1))), ((w 3), .inl (k 0, 60, .inl (g 3))), (o, .inr (2, [.int it, .int sz_, .ref q, .int so])), (q, .inl (k 1, 40, .inr (.inl lf)))] := hD
          generalize ef_32 : (upd f_4 i_3.toNatClampNeg r_31) = f_32 at hP hD
          have hf_32 : ∀ j : Nat, 0 ≤ (f_32 j).toInt ∧ (f_32 j).toInt ≤ 9 := by rw [← ef_32]; exact upd_rng h_7 ⟨by omega, by omega⟩
          refine lv_iload_n hx hb dX2_findBest_90 rfl (lv_at hl 4 rfl) ?_
          refine lv_iconst (v := 1) hx hb dX2_findBest_91 (by decide) ?_
          refine lv_iload hx hb dX2_findBest_92 (lv_at hl 0 rfl) ?_
          refine lv_ishl hx hb dX2_findBest_94 ?_
          refine lv_topi (fun z_33 ez_33 => ?_)
          refine lv_iconst (v := (-1)) hx hb dX2_findBest_95 (by decide) ?_
          refine lv_ixor hx hb dX2_findBest_96 ?_
          refine lv_topi (fun z_34 ez_34 => ?_)
          refine lv_iand hx hb dX2_findBest_97 ?_
          refine lv_topi (fun z_35 ez_35 => ?_)
          have tz_35 : 0 ≤ z_35.toInt ∧ z_35.toInt ≤ y_5.toInt := by rw [ez_35]; exact and_bl (by omega) (Int.le_refl _)
          refine lv_istore_n (lv' := [(3, .int z_35), (7, .int r_31), (6, .int 1), (5, .int z_11), (4, .int r_2), (0, .ref (mo 0)), (1, .ref (w 0)), (2, .ref o)]) hx hb dX2_findBest_98 rfl hl (by decide) rfl (fun ls hl => ?_)
          refine lv_aload_n hx hb dX2_findBest_99 rfl (lv_at hl 5 rfl) ?_
          refine lv_dup hx hb dX2_findBest_100 rfl ?_
          refine va_get (D := D) (ci := 1) (v := .int i_3) (C := RX2) (T := TX2) (N := 2) hx hb hts inlX2 hown hK hP 0 rfl rfl 1 (by decide) (hts _ mw_982) (fun _ h9 => h9) rfl dX2_findBest_101 ?_
          refine lv_iconst (v := 1) hx hb dX2_findBest_104 (by decide) ?_
          refine lv_iadd hx hb dX2_findBest_105 ?_
          refine lv_topi (fun z_36 ez_36 => ?_)
          have tz_36 : z_36.toInt = i_3.toInt + 1 := by rw [ez_36]; exact ti_addc (by decide) (by omega) (by omega)
          refine va_put (D := D) (ci := 1) (v := .int z_36) (ty := .int) (C := RX2) (T := TX2) (N := 2) hx hb hts inlX2 tyX2 tyX2_ok nmX2 hown hK hP hD hS 0 rfl rfl 1 (by decide) (hts _ mw_982) (fun _ h9 => h9) rfl (by decide +kernel) rfl rfl (Nat.le_of_ble_eq_true rfl) dX2_findBest_106 (fun H locs hP hD hS => ?_)
          have hP : va_P D vwCl [((mo 0), .inr (1, [.ref (mo 1), .int z_36])), ((mo 1), .inl (k 0, 10, .inl f_32)), ((w 0), .inr (5, [.int (y 0), .int (y 1), .int (y 2), .int (y 3), .int (y 4), .int (y 5), .int (y 6), .int (y 7), .int (y 8), .int (y 9), .int (y 10), .ref (w 1), .ref (w 2), .ref (w 3), .ref (w 4), .ref (w 5)])), ((w 1), .inl (k 0, 10, .inl (g 1))), ((w 3), .inl (k 0, 60, .inl (g 3))), (o, .inr (2, [.int it, .int sz_, .ref q, .int so])), (q, .inl (k 1, 40, .inr (.inl lf)))] H := hP
          have hD : va_D A [((mo 0), .inr (1, [.ref (mo 1), .int z_36])), ((mo 1), .inl (k 0, 10, .inl f_32)), ((w 0), .inr (5, [.int (y 0), .int (y 1), .int (y 2), .int (y 3), .int (y 4), .int (y 5), .int (y 6), .int (y 7), .int (y 8), .int (y 9), .int (y 10), .ref (w 1), .ref (w 2), .ref (w 3), .ref (w 4), .ref (w 5)])), ((w 1), .inl (k 0, 10, .inl (g 1))), ((w 3), .inl (k 0, 60, .inl (g 3))), (o, .inr (2, [.int it, .int sz_, .ref q, .int so])), (q, .inl (k 1, 40, .inr (.inl lf)))] := hD
          refine lv_goto (tgt := 16) hx hb dX2_findBest_109 (by decide) ?_
          exact ih16 (z_36, f_32, z_35) _ _ ls (by show (10 - z_36.toInt).toNat < (10 - i_3.toInt).toNat; omega) ⟨(show 0 ≤ z_36.toInt ∧ z_36.toInt ≤ 10 from ⟨by omega, by omega⟩), hf_32, (show 0 ≤ z_35.toInt ∧ z_35.toInt ≤ 1023 from ⟨by omega, by omega⟩), hP.sub [0, 1, 2, 3, 4, 5, 6] rfl, hD.sub [0, 1, 2, 3, 4, 5, 6] (by decide) rfl, hS, lv_sub hl [4, 0, 5, 6, 7] rfl⟩
set_option maxHeartbeats 4000000 in
set_option maxRecDepth 100000 in
theorem s_E_takeOrder (l : Launch) (D : va_G) (k : Nat → ClassId) (mo : Nat → Nat) (of : Nat → Int32) (ms : Int32) (w : Nat → Nat) (y : Nat → Int32) (o : Nat) (q : Nat) (it : Int32) (sz_ : Int32) (so : Int32) (lf : Nat → Int64) (sz : Nat) (w_hof : ∀ j : Nat, 0 ≤ (of j).toInt ∧ (of j).toInt ≤ 9) (w_hms : 0 ≤ ms.toInt ∧ ms.toInt ≤ 10) (w_h0 : 0 ≤ (y 0).toInt ∧ (y 0).toInt ≤ 10) (w_h2 : 0 ≤ (y 2).toInt ∧ (y 2).toInt ≤ 6) (w_h6 : 0 ≤ (y 6).toInt ∧ (y 6).toInt ≤ 1) (w_hsz : 0 ≤ sz_.toInt ∧ sz_.toInt ≤ 40) : Met l yX2_takeOrder (Cond.code yX2_takeOrder cX2_takeOrder 7 (some .boolean) :: wsL_law) ({ frames := 5, cells := 0, slots := 0, locals := 300 } : Room) (va_Pc [.ref (mo 0), .ref (w 0), .ref o] (pu D k sz [((mo 0), .inr (1, [.ref (mo 1), .int ms])), ((mo 1), .inl (k 0, 10, .inl of)), ((w 0), .inr (5, [.int (y 0), .int (y 1), .int (y 2), .int (y 3), .int (y 4), .int (y 5), .int (y 6), .int (y 7), .int (y 8), .int (y 9), .int (y 10), .ref (w 1), .ref (w 2), .ref (w 3), .ref (w 4), .ref (w 5)])), (o, .inr (2, [.int it, .int sz_, .ref q, .int so])), (q, .inl (k 1, 40, .inr (.inl lf)))])) (va_Qi (fun rr (uu : Int32 × (Nat → Int32)) => (0 ≤ rr.toInt ∧ rr.toInt ≤ 1) ∧ (0 ≤ uu.1.toInt ∧ uu.1.toInt ≤ 10) ∧ (∀ j : Nat, 0 ≤ (uu.2 j).toInt ∧ (uu.2 j).toInt ≤ 9)) (qu D (va_A [((mo 0), .inr (1, [.ref (mo 1), .int ms])), ((mo 1), .inl (k 0, 10, .inl of)), ((w 0), .inr (5, [.int (y 0), .int (y 1), .int (y 2), .int (y 3), .int (y 4), .int (y 5), .int (y 6), .int (y 7), .int (y 8), .int (y 9), .int (y 10), .ref (w 1), .ref (w 2), .ref (w 3), .ref (w 4), .ref (w 5)])), (o, .inr (2, [.int it, .int sz_, .ref q, .int so])), (q, .inl (k 1, 40, .inr (.inl lf)))] sz) (fun uu : Int32 × (Nat → Int32) => [((mo 0), .inr (1, [.ref (mo 1), .int uu.1])), ((mo 1), .inl (k 0, 10, .inl uu.2)), ((w 0), .inr (5, [.int (y 0), .int (y 1), .int (y 2), .int (y 3), .int (y 4), .int (y 5), .int (y 6), .int (y 7), .int (y 8), .int (y 9), .int (y 10), .ref (w 1), .ref (w 2), .ref (w 3), .ref (w 4), .ref (w 5)])), (o, .inr (2, [.int it, .int sz_, .ref q, .int so])), (q, .inl (k 1, 40, .inr (.inl lf)))])) (va_A [((mo 0), .inr (1, [.ref (mo 1), .int ms])), ((mo 1), .inl (k 0, 10, .inl of)), ((w 0), .inr (5, [.int (y 0), .int (y 1), .int (y 2), .int (y 3), .int (y 4), .int (y 5), .int (y 6), .int (y 7), .int (y 8), .int (y 9), .int (y 10), .ref (w 1), .ref (w 2), .ref (w 3), .ref (w 4), .ref (w 5)])), (o, .inr (2, [.int it, .int sz_, .ref q, .int so])), (q, .inl (k 1, 40, .inr (.inl lf)))] sz)) 0 0 (va_A [((mo 0), .inr (1, [.ref (mo 1), .int ms])), ((mo 1), .inl (k 0, 10, .inl of)), ((w 0), .inr (5, [.int (y 0), .int (y 1), .int (y 2), .int (y 3), .int (y 4), .int (y 5), .int (y 6), .int (y 7), .int (y 8), .int (y 9), .int (y 10), .ref (w 1), .ref (w 2), .ref (w 3), .ref (w 4), .ref (w 5)])), (o, .inr (2, [.int it, .int sz_, .ref q, .int so])), (q, .inl (k 1, 40, .inr (.inl lf)))] sz) := by
  refine Met.ofW (cc := cX2_takeOrder) (maxL := 7) (ret := (some .boolean)) (by decide) rfl ?_
  intro p e s m args below meth c s₁ B hml hv
  obtain ⟨rfl, hsz, hP, hK, hD0, hN0⟩ := hv
  have hx := B.exec
  have hb := B.bytes
  have hr := B.returns
  have hts : ∀ w ∈ wsL_law, w.before _ s = true := fun w h => atoms_spec (ws := Cond.code yX2_takeOrder cX2_takeOrder 7 (some .boolean) :: wsL_law) B.pre w (List.mem_cons_of_mem _ h)
  have hown : s.vm.findClass RX2 = some m.cls := findClass_of_methodNamed B.named
  have hlocks := B.notSynchronized
  subst hsz
  have hD := hD0.self (sz := s.heap.size)
  generalize hAe : va_A [((mo 0), .inr (1, [.ref (mo 1), .int ms])), ((mo 1), .inl (k 0, 10, .inl of)), ((w 0), .inr (5, [.int (y 0), .int (y 1), .int (y 2), .int (y 3), .int (y 4), .int (y 5), .int (y 6), .int (y 7), .int (y 8), .int (y 9), .int (y 10), .ref (w 1), .ref (w 2), .ref (w 3), .ref (w 4), .ref (w 5)])), (o, .inr (2, [.int it, .int sz_, .ref q, .int so])), (q, .inl (k 1, 40, .inr (.inl lf)))] s.heap.size = A at hD ⊢
  have hA : ∀ q : Nat, s.heap.size ≤ q → A q := fun q h => by rw [← hAe]; exact Or.inr h
  have hS : va_S A s.heap s.heap [] := va_S.rf
  have hP : va_P D vwCl [((mo 0), .inr (1, [.ref (mo 1), .int ms])), ((mo 1), .inl (k 0, 10, .inl of)), ((w 0), .inr (5, [.int (y 0), .int (y 1), .int (y 2), .int (y 3), .int (y 4), .int (y 5), .int (y 6), .int (y 7), .int (y 8), .int (y 9), .int (y 10), .ref (w 1), .ref (w 2), .ref (w 3), .ref (w 4), .ref (w 5)])), (o, .inr (2, [.int it, .int sz_, .ref q, .int so])), (q, .inl (k 1, 40, .inr (.inl lf)))] s.heap := hP
  have hl := lv_entry ([.ref (mo 0), .ref (w 0), .ref o]) (n := 7) (Nat.le_of_ble_eq_true rfl)
  rw [lg_entry_eq]
  generalize (lg_sl ([.ref (mo 0), .ref (w 0), .ref o]) ++ List.replicate (7 - (lg_sl ([.ref (mo 0), .ref (w 0), .ref o])).length) Slot.unset).toArray = ls at hl ⊢
  have hl : lv_has ls 7 [(0, .ref (mo 0)), (1, .ref (w 0)), (2, .ref o)] := hl
  refine lv_aload_n hx hb dX2_takeOrder_0 rfl (lv_at hl 1 rfl) ?_
  refine kV_i (q0 := 0) (As := []) (rest := []) ⟨hx, hb, hml, hown, hts⟩ (s_W_thatched l D k _ y (show 0 ≤ (y 0).toInt ∧ (y 0).toInt ≤ 10 from ⟨by omega, by omega⟩) (show 0 ≤ (y 2).toInt ∧ (y 2).toInt ≤ 6 from ⟨by omega, by omega⟩) (show 0 ≤ (y 6).toInt ∧ (y 6).toInt ≤ 1 from ⟨by omega, by omega⟩)) (gV mw_983 mw_720 mw_721 mw_19 mw_722) hd_yX6_thatched rfl rfl ⟨Nat.le_of_ble_eq_true rfl, Nat.le_of_ble_eq_true rfl⟩ hK hN0 (hP.sub [2] rfl) rfl rfl rfl rfl hl.1 rfl (Nat.le_of_ble_eq_true rfl) dX2_takeOrder_1 ⟨Nat.le_of_ble_eq_true rfl, Nat.le_of_ble_eq_true rfl⟩ (fun r_1 hr_1 => ?_)
  have hr_1 : 0 ≤ r_1.toInt ∧ r_1.toInt ≤ 1023 := hr_1
  refine lv_istore_n (lv' := [(3, .int r_1), (0, .ref (mo 0)), (1, .ref (w 0)), (2, .ref o)]) hx hb dX2_takeOrder_4 rfl hl (by decide) rfl (fun ls hl => ?_)
  refine lv_aload_n hx hb dX2_takeOrder_5 rfl (lv_at hl 1 rfl) ?_
  refine lv_iconst (v := 0) hx hb dX2_takeOrder_6 (by decide) ?_
  refine va_put (D := D) (ci := 1) (v := .int 0) (ty := .int) (C := RX2) (T := TX2) (N := 2) hx hb hts inlX2 tyX2 tyX2_ok nmX2 hown hK hP hD hS 0 rfl rfl 1 (by decide) (hts _ mw_982) (fun _ h9 => h9) rfl (by decide +kernel) rfl rfl (Nat.le_of_ble_eq_true rfl) dX2_takeOrder_7 (fun H locs hP hD hS => ?_)
  have hP : va_P D vwCl [((mo 0), .inr (1, [.ref (mo 1), .int 0])), ((mo 1), .inl (k 0, 10, .inl of)), ((w 0), .inr (5, [.int (y 0), .int (y 1), .int (y 2), .int (y 3), .int (y 4), .int (y 5), .int (y 6), .int (y 7), .int (y 8), .int (y 9), .int (y 10), .ref (w 1), .ref (w 2), .ref (w 3), .ref (w 4), .ref (w 5)])), (o, .inr (2, [.int it, .int sz_, .ref q, .int so])), (q, .inl (k 1, 40, .inr (.inl lf)))] H := hP
  have hD : va_D A [((mo 0), .inr (1, [.ref (mo 1), .int 0])), ((mo 1), .inl (k 0, 10, .inl of)), ((w 0), .inr (5, [.int (y 0), .int (y 1), .int (y 2), .int (y 3), .int (y 4), .int (y 5), .int (y 6), .int (y 7), .int (y 8), .int (y 9), .int (y 10), .ref (w 1), .ref (w 2), .ref (w 3), .ref (w 4), .ref (w 5)])), (o, .inr (2, [.int it, .int sz_, .ref q, .int so])), (q, .inl (k 1, 40, .inr (.inl lf)))] := hD
  refine lv_aload_n hx hb dX2_takeOrder_10 rfl (lv_at hl 3 rfl) ?_
  refine va_get (D := D) (ci := 2) (v := .int sz_) (C := RX3) (T := TX3) (N := 4) hx hb hts inlX3 hown hK hP 3 rfl rfl 1 (by decide) (hts _ mw_999) (fun _ h9 => h9) rfl dX2_takeOrder_11 ?_
  refine lv_iload_n hx hb dX2_takeOrder_14 rfl (lv_at hl 0 rfl) ?_
  refine kS_i (As := [.int r_1]) (rest := [.int sz_]) ⟨hx, hb, hml, hown, hts⟩ (s_J_bitCount l D k r_1) (gS mw_985 mw_725 mw_726 mw_727) hd_yJ6_bitCount_0f7a4 rfl rfl ⟨Nat.le_of_ble_eq_true rfl, Nat.le_of_ble_eq_true rfl⟩ hK hN0 (hP.sub [] rfl) rfl hl.1 rfl (Nat.le_of_ble_eq_true rfl) dX2_takeOrder_15 ⟨Nat.le_of_ble_eq_true rfl, Nat.le_of_ble_eq_true rfl⟩ (fun r_2 hr_2 => ?_)
  have hr_2 : 0 ≤ r_2.toInt ∧ r_2.toInt ≤ 63 := hr_2
  refine lv_icmp_eq (tgt := 23) hx hb dX2_takeOrder_18 (by decide) (fun c_3 => ?_) (fun c_3 => ?_)
  · have c_3 : sz_.toInt = r_2.toInt := ti_eq c_3
    refine lv_iconst (v := 0) hx hb dX2_takeOrder_23 (by decide) ?_
    refine lv_istore (lv' := [(4, .int 0), (3, .int r_1), (0, .ref (mo 0)), (1, .ref (w 0)), (2, .ref o)]) hx hb dX2_takeOrder_24 hl (by decide) rfl (fun ls hl => ?_)
    refine W_loop (σ := Int32 × (Nat → Int32) × Int32) (fun xx H locs ls => (0 ≤ xx.1.toInt ∧ xx.1.toInt ≤ 10) ∧ (∀ j : Nat, 0 ≤ (xx.2.1 j).toInt ∧ (xx.2.1 j).toInt ≤ 9) ∧ va_P D vwCl [((mo 0), .inr (1, [.ref (mo 1), .int xx.1])), ((mo 1), .inl (k 0, 10, .inl xx.2.1)), ((w 0), .inr (5, [.int (y 0), .int (y 1), .int (y 2), .int (y 3), .int (y 4), .int (y 5), .int (y 6), .int (y 7), .int (y 8), .int (y 9), .int (y 10), .ref (w 1), .ref (w 2), .ref (w 3), .ref (w 4), .ref (w 5)])), (o, .inr (2, [.int it, .int sz_, .ref q, .int so])), (q, .inl (k 1, 40, .inr (.inl lf)))] H ∧ va_D A [((mo 0), .inr (1, [.ref (mo 1), .int xx.1])), ((mo 1), .inl (k 0, 10, .inl xx.2.1)), ((w 0), .inr (5, [.int (y 0), .int (y 1), .int (y 2), .int (y 3), .int (y 4), .int (y 5), .int (y 6), .int (y 7), .int (y 8), .int (y 9), .int (y 10), .ref (w 1), .ref (w 2), .ref (w 3), .ref (w 4), .ref (w 5)])), (o, .inr (2, [.int it, .int sz_, .ref q, .int so])), (q, .inl (k 1, 40, .inr (.inl lf)))] ∧ va_S A s.heap H locs ∧ lv_has ls 7 [(4, .int xx.1), (3, .int xx.2.2), (0, .ref (mo 0)), (1, .ref (w 0)), (2, .ref o)]) (fun xx => (10 - xx.1.toInt).toNat) ?_ (0, of, r_1) _ _ ls ⟨(show 0 ≤ (0 : Int32).toInt ∧ (0 : Int32).toInt ≤ 10 from ⟨by decide, by decide⟩), w_hof, hP.sub [0, 1, 2, 3, 4] rfl, hD.sub [0, 1, 2, 3, 4] (by decide) rfl, hS, lv_sub hl [0, 1, 2, 3, 4] rfl⟩
    intro xx H locs ls hI ih26
    obtain ⟨i_4, f_5, y_6⟩ := xx
    obtain ⟨h_7, h_8, hP, hD, hS, hl⟩ := hI
    have h_7 : 0 ≤ i_4.toInt ∧ i_4.toInt ≤ 10 := h_7
    have h_8 : ∀ j : Nat, 0 ≤ (f_5 j).toInt ∧ (f_5 j).toInt ≤ 9 := h_8
    obtain ⟨h_7a, h_7b⟩ := h_7
    have hP : va_P D vwCl [((mo 0), .inr (1, [.ref (mo 1), .int i_4])), ((mo 1), .inl (k 0, 10, .inl f_5)), ((w 0), .inr (5, [.int (y 0), .int (y 1), .int (y 2), .int (y 3), .int (y 4), .int (y 5), .int (y 6), .int (y 7), .int (y 8), .int (y 9), .int (y 10), .ref (w 1), .ref (w 2), .ref (w 3), .ref (w 4), .ref (w 5)])), (o, .inr (2, [.int it, .int sz_, .ref q, .int so])), (q, .inl (k 1, 40, .inr (.inl lf)))] H := hP
    have hD : va_D A [((mo 0), .inr (1, [.ref (mo 1), .int i_4])), ((mo 1), .inl (k 0, 10, .inl f_5)), ((w 0), .inr (5, [.int (y 0), .int (y 1), .int (y 2), .int (y 3), .int (y 4), .int (y 5), .int (y 6), .int (y 7), .int (y 8), .int (y 9), .int (y 10), .ref (w 1), .ref (w 2), .ref (w 3), .ref (w 4), .ref (w 5)])), (o, .inr (2, [.int it, .int sz_, .ref q, .int so])), (q, .inl (k 1, 40, .inr (.inl lf)))] := hD
    have hl : lv_has ls 7 [(4, .int i_4), (3, .int y_6), (0, .ref (mo 0)), (1, .ref (w 0)), (2, .ref o)] := hl
    refine lv_iload hx hb dX2_takeOrder_26 (lv_at hl 0 rfl) ?_
    refine lv_aload_n hx hb dX2_takeOrder_28 rfl (lv_at hl 4 rfl) ?_
    refine va_get (D := D) (ci := 2) (v := .int sz_) (C := RX3) (T := TX3) (N := 4) hx hb hts inlX3 hown hK hP 3 rfl rfl 1 (by decide) (hts _ mw_999) (fun _ h9 => h9) rfl dX2_takeOrder_29 ?_
    refine lv_icmp_ge (tgt := 117) hx hb dX2_takeOrder_32 (by decide) (fun c_9 => ?_) (fun c_9 => ?_)
    · have c_9 : sz_.toInt ≤ i_4.toInt := ti_le c_9
      refine lv_iload_n hx hb dX2_takeOrder_117 rfl (lv_at hl 1 rfl) ?_
      refine lv_if_ne (tgt := 125) hx hb dX2_takeOrder_118 (by decide) (fun c_10 => ?_) (fun c_10 => ?_)
      · have c_10 : y_6.toInt ≠ 0 := ti_ne c_10
        refine lv_iconst (v := 0) hx hb dX2_takeOrder_125 (by decide) ?_
        exact W.zret (v := 0) hx hb hr rfl (fun t ht hW => ⟨⟨0, (i_4, f_5), rfl, ⟨⟨by decide, by decide⟩, (show 0 ≤ i_4.toInt ∧ i_4.toInt ≤ 10 from ⟨by omega, by omega⟩), (show ∀ j : Nat, 0 ≤ (f_5 j).toInt ∧ (f_5 j).toInt ≤ 9 from h_8)⟩, by rw [ht]; exact hP.sub [0, 1, 2, 3, 4] rfl, hD.sub [0, 1, 2, 3, 4] (by decide) rfl⟩, hS.F ht⟩) hS.2.2 dX2_takeOrder_126
      · have c_10 : y_6.toInt = 0 := ti_eq c_10
        have qc_10 : y_6 = 0 := ti_of (show y_6.toInt = 0 from by omega)
        refine lv_iconst (v := 1) hx hb dX2_takeOrder_121 (by decide) ?_
        refine lv_goto (tgt := 126) hx hb dX2_takeOrder_122 (by decide) ?_
        exact W.zret (v := 1) hx hb hr rfl (fun t ht hW => ⟨⟨1, (i_4, f_5), rfl, ⟨⟨by decide, by decide⟩, (show 0 ≤ i_4.toInt ∧ i_4.toInt ≤ 10 from ⟨by omega, by omega⟩), (show ∀ j : Nat, 0 ≤ (f_5 j).toInt ∧ (f_5 j).toInt ≤ 9 from h_8)⟩, by rw [ht]; exact hP.sub [0, 1, 2, 3, 4] rfl, hD.sub [0, 1, 2, 3, 4] (by decide) rfl⟩, hS.F ht⟩) hS.2.2 dX2_takeOrder_126
    · have c_9 : i_4.toInt < sz_.toInt := ti_nle c_9
      refine lv_iload hx hb dX2_takeOrder_35 (lv_at hl 0 rfl) ?_
      refine lv_bipush (v := 10) hx hb dX2_takeOrder_37 (by decide) ?_
      refine lv_icmp_ge (tgt := 117) hx hb dX2_takeOrder_39 (by decide) (fun c_11 => ?_) (fun c_11 => ?_)
      · have c_11 : 10 ≤ i_4.toInt := ti_le c_11
        have qc_11 : i_4 = 10 := ti_of (show i_4.toInt = 10 from by omega)
        refine lv_iload_n hx hb dX2_takeOrder_117 rfl (lv_at hl 1 rfl) ?_
        refine lv_if_ne (tgt := 125) hx hb dX2_takeOrder_118 (by decide) (fun c_12 => ?_) (fun c_12 => ?_)
        · have c_12 : y_6.toInt ≠ 0 := ti_ne c_12
          refine lv_iconst (v := 0) hx hb dX2_takeOrder_125 (by decide) ?_
          exact W.zret (v := 0) hx hb hr rfl (fun t ht hW => ⟨⟨0, (i_4, f_5), rfl, ⟨⟨by decide, by decide⟩, (show 0 ≤ i_4.toInt ∧ i_4.toInt ≤ 10 from ⟨by omega, by omega⟩), (show ∀ j : Nat, 0 ≤ (f_5 j).toInt ∧ (f_5 j).toInt ≤ 9 from h_8)⟩, by rw [ht]; exact hP.sub [0, 1, 2, 3, 4] rfl, hD.sub [0, 1, 2, 3, 4] (by decide) rfl⟩, hS.F ht⟩) hS.2.2 dX2_takeOrder_126
        · have c_12 : y_6.toInt = 0 := ti_eq c_12
          have qc_12 : y_6 = 0 := ti_of (show y_6.toInt = 0 from by omega)
          refine lv_iconst (v := 1) hx hb dX2_takeOrder_121 (by decide) ?_
          refine lv_goto (tgt := 126) hx hb dX2_takeOrder_122 (by decide) ?_
          exact W.zret (v := 1) hx hb hr rfl (fun t ht hW => ⟨⟨1, (i_4, f_5), rfl, ⟨⟨by decide, by decide⟩, (show 0 ≤ i_4.toInt ∧ i_4.toInt ≤ 10 from ⟨by omega, by omega⟩), (show ∀ j : Nat, 0 ≤ (f_5 j).toInt ∧ (f_5 j).toInt ≤ 9 from h_8)⟩, by rw [ht]; exact hP.sub [0, 1, 2, 3, 4] rfl, hD.sub [0, 1, 2, 3, 4] (by decide) rfl⟩, hS.F ht⟩) hS.2.2 dX2_takeOrder_126
      · have c_11 : i_4.toInt < 10 := ti_nle c_11
        refine lv_aload_n hx hb dX2_takeOrder_42 rfl (lv_at hl 4 rfl) ?_
        refine va_get (D := D) (ci := 2) (v := .ref q) (C := RX3) (T := TX3) (N := 4) hx hb hts inlX3 hown hK hP 3 rfl rfl 2 (by decide) (hts _ mw_1000) (fun _ h9 => h9) rfl dX2_takeOrder_43 ?_
        refine lv_iload hx hb dX2_takeOrder_46 (lv_at hl 0 rfl) ?_
        refine va_lald hx hb hK hP 4 1 rfl rfl (vp_in_o (by omega) (by omega)) dX2_takeOrder_48 ?_
        refine lv_topl (fun z_13 ez_13 => ?_)
        refine lv_lstore (lv' := [(5, .long z_13), (4, .int i_4), (3, .int y_6), (0, .ref (mo 0)), (1, .ref (w 0)), (2, .ref o)]) hx hb dX2_takeOrder_49 hl (by decide) rfl (fun ls hl => ?_)
        refine lv_lload hx hb dX2_takeOrder_51 (lv_at hl 0 rfl) ?_
        refine lv_lconst (v := 0) hx hb dX2_takeOrder_53 (by decide) ?_
        refine W.lcmp hx hb dX2_takeOrder_54 ?_
        rcases lg3 z_13 0 with ⟨h_14, eh_14⟩ | ⟨h_14, eh_14⟩ | ⟨h_14, eh_14⟩
        · have h_14 : z_13.toInt < 0 := h_14
          refine lv_ni (v := (-1)) eh_14 ?_
          refine lv_if_lt (tgt := 79) hx hb dX2_takeOrder_55 (by decide) (fun _ => ?_) (fun c9 => absurd c9 (by decide))
          refine lv_iconst (v := 0) hx hb dX2_takeOrder_79 (by decide) ?_
          exact W.zret (v := 0) hx hb hr rfl (fun t ht hW => ⟨⟨0, (i_4, f_5), rfl, ⟨⟨by decide, by decide⟩, (show 0 ≤ i_4.toInt ∧ i_4.toInt ≤ 10 from ⟨by omega, by omega⟩), (show ∀ j : Nat, 0 ≤ (f_5 j).toInt ∧ (f_5 j).toInt ≤ 9 from h_8)⟩, by rw [ht]; exact hP.sub [0, 1, 2, 3, 4] rfl, hD.sub [0, 1, 2, 3, 4] (by decide) rfl⟩, hS.F ht⟩) hS.2.2 dX2_takeOrder_80
        · have h_14 : z_13.toInt = 0 := h_14
          refine lv_ni (v := 0) eh_14 ?_
          refine lv_if_lt (tgt := 79) hx hb dX2_takeOrder_55 (by decide) (fun c9 => absurd c9 (by decide)) (fun _ => ?_)
          refine lv_lload hx hb dX2_takeOrder_58 (lv_at hl 0 rfl) ?_
          refine lv_aload_n hx hb dX2_takeOrder_60 rfl (lv_at hl 4 rfl) ?_
          refine va_get (D := D) (ci := 5) (v := .int (y 0)) (C := RX6) (T := TX6) (N := 16) hx hb hts inlX6 hown hK hP 2 rfl rfl 0 (by decide) (hts _ mw_1033) (fun _ h9 => h9) rfl dX2_takeOrder_61 ?_
          refine lv_i2l (v := (y 0).toInt64) hx hb dX2_takeOrder_64 rfl ?_
          refine W.lcmp hx hb dX2_takeOrder_65 ?_
          rcases lg3 z_13 ((y 0).toInt64) with ⟨h_15, eh_15⟩ | ⟨h_15, eh_15⟩ | ⟨h_15, eh_15⟩
          · have h_15 : z_13.toInt < (y 0).toInt := by have q := Int32.toInt_toInt64 (y 0); omega
            refine lv_ni (v := (-1)) eh_15 ?_
            refine lv_if_ge (tgt := 79) hx hb dX2_takeOrder_66 (by decide) (fun c9 => absurd c9 (by decide)) (fun _ => ?_)
            refine lv_iload_n hx hb dX2_takeOrder_69 rfl (lv_at hl 2 rfl) ?_
            refine lv_lload hx hb dX2_takeOrder_70 (lv_at hl 0 rfl) ?_
            refine lv_l2i hx hb dX2_takeOrder_72 rfl ?_
            refine lv_topi (fun z_16 ez_16 => ?_)
            have tz_16 : z_16.toInt = z_13.toInt := by rw [ez_16]; exact ti_l2i (by omega) (by omega)
            refine kSN_i (As := [.int y_6, .int z_16]) (rest := []) ⟨hx, hb, hml, hown, hts⟩ (s_T_bit l D k y_6 z_16) mw_370 mw_2 mw_369 (host := "ThatchNext") (List.mem_of_getElem? (i := 11) rfl) hd_yX7_bit rfl rfl ⟨Nat.le_of_ble_eq_true rfl, Nat.le_of_ble_eq_true rfl⟩ hK hN0 (hP.sub [] rfl) rfl hl.1 rfl (Nat.le_of_ble_eq_true rfl) dX2_takeOrder_73 ⟨Nat.le_of_ble_eq_true rfl, Nat.le_of_ble_eq_true rfl⟩ (fun r_17 hr_17 => ?_)
            have hr_17 : 0 ≤ r_17.toInt ∧ r_17.toInt ≤ 1 := hr_17
            refine lv_if_ne (tgt := 81) hx hb dX2_takeOrder_76 (by decide) (fun c_18 => ?_) (fun c_18 => ?_)
            · have c_18 : r_17.toInt ≠ 0 := ti_ne c_18
              have qc_18 : r_17 = 1 := ti_of (show r_17.toInt = 1 from by omega)
              refine lv_aload_n hx hb dX2_takeOrder_81 rfl (lv_at hl 3 rfl) ?_
              refine va_get (D := D) (ci := 1) (v := .ref (mo 1)) (C := RX2) (T := TX2) (N := 2) hx hb hts inlX2 hown hK hP 0 rfl rfl 0 (by decide) (hts _ mw_69) (fun _ h9 => h9) rfl dX2_takeOrder_82 ?_
              refine lv_iload hx hb dX2_takeOrder_85 (lv_at hl 1 rfl) ?_
              refine lv_lload hx hb dX2_takeOrder_87 (lv_at hl 0 rfl) ?_
              refine lv_l2i hx hb dX2_takeOrder_89 rfl ?_
              refine lv_topi (fun z_19 ez_19 => ?_)
              have tz_19 : z_19.toInt = z_13.toInt := by rw [ez_19]; exact ti_l2i (by omega) (by omega)
              refine va_iast hx hb hK hP hD hS 1 0 rfl rfl (vp_in_o (by omega) (by omega)) dX2_takeOrder_90 (fun H locs hP hD hS => ?_)
              have hP : va_P D vwCl [((mo 0), .inr (1, [.ref (mo 1), .int i_4])), ((mo 1), .inl (k 0, 10, .inl (upd f_5 i_4.toNatClampNeg z_19))), ((w 0), .inr (5, [.int (y 0), .int (y 1), .int (y 2), .int (y 3), .int (y 4), .int (y 5), .int (y 6), .int (y 7), .int (y 8), .int (y 9), .int (y 10), .ref (w 1), .ref (w 2), .ref (w 3), .ref (w 4), .ref (w 5)])), (o, .inr (2, [.int it, .int sz_, .ref q, .int so])), (q, .inl (k 1, 40, .inr (.inl lf)))] H := hP
              have hD : va_D A [((mo 0), .inr (1, [.ref (mo 1), .int i_4])), ((mo 1), .inl (k 0, 10, .inl (upd f_5 i_4.toNatClampNeg z_19))), ((w 0), .inr (5, [.int (y 0), .int (y 1), .int (y 2), .int (y 3), .int (y 4), .int (y 5), .int (y 6), .int (y 7), .int (y 8), .int (y 9), .int (y 10), .ref (w 1), .ref (w 2), .ref (w 3), .ref (w 4), .ref (w 5)])), (o, .inr (2, [.int it, .int sz_, .ref q, .int so])), (q, .inl (k 1, 40, .inr (.inl lf)))] := hD
              generalize ef_20 : (upd f_5 i_4.toNatClampNeg z_19) = f_20 at hP hD
              have hf_20 : ∀ j : Nat, 0 ≤ (f_20 j).toInt ∧ (f_20 j).toInt ≤ 9 := by rw [← ef_20]; exact upd_rng h_8 ⟨by omega, by omega⟩
              refine lv_iload_n hx hb dX2_takeOrder_91 rfl (lv_at hl 2 rfl) ?_
              refine lv_iconst (v := 1) hx hb dX2_takeOrder_92 (by decide) ?_
              refine lv_lload hx hb dX2_takeOrder_93 (lv_at hl 0 rfl) ?_
              refine lv_l2i hx hb dX2_takeOrder_95 rfl ?_
              refine lv_topi (fun z_21 ez_21 => ?_)
              have tz_21 : z_21.toInt = z_13.toInt := by rw [ez_21]; exact ti_l2i (by omega) (by omega)
              refine lv_ishl hx hb dX2_takeOrder_96 ?_
              refine lv_topi (fun z_22 ez_22 => ?_)
              refine lv_iconst (v := (-1)) hx hb dX2_takeOrder_97 (by decide) ?_
              refine lv_ixor hx hb dX2_takeOrder_98 ?_
              refine lv_topi (fun z_23 ez_23 => ?_)
              refine lv_iand hx hb dX2_takeOrder_99 ?_
              refine lv_topi (fun z_24 ez_24 => ?_)
              refine lv_istore_n (lv' := [(3, .int z_24), (5, .long z_13), (4, .int i_4), (0, .ref (mo 0)), (1, .ref (w 0)), (2, .ref o)]) hx hb dX2_takeOrder_100 rfl hl (by decide) rfl (fun ls hl => ?_)
              refine lv_aload_n hx hb dX2_takeOrder_101 rfl (lv_at hl 3 rfl) ?_
              refine lv_dup hx hb dX2_takeOrder_102 rfl ?_
              refine va_get (D := D) (ci := 1) (v := .int i_4) (C := RX2) (T := TX2) (N := 2) hx hb hts inlX2 hown hK hP 0 rfl rfl 1 (by decide) (hts _ mw_982) (fun _ h9 => h9) rfl dX2_takeOrder_103 ?_
              refine lv_iconst (v := 1) hx hb dX2_takeOrder_106 (by decide) ?_
              refine lv_iadd hx hb dX2_takeOrder_107 ?_
              refine lv_topi (fun z_25 ez_25 => ?_)
              have tz_25 : z_25.toInt = i_4.toInt + 1 := by rw [ez_25]; exact ti_addc (by decide) (by omega) (by omega)
              refine va_put (D := D) (ci := 1) (v := .int z_25) (ty := .int) (C := RX2) (T := TX2) (N := 2) hx hb hts inlX2 tyX2 tyX2_ok nmX2 hown hK hP hD hS 0 rfl rfl 1 (by decide) (hts _ mw_982) (fun _ h9 => h9) rfl (by decide +kernel) rfl rfl (Nat.le_of_ble_eq_true rfl) dX2_takeOrder_108 (fun H locs hP hD hS => ?_)
              have hP : va_P D vwCl [((mo 0), .inr (1, [.ref (mo 1), .int z_25])), ((mo 1), .inl (k 0, 10, .inl f_20)), ((w 0), .inr (5, [.int (y 0), .int (y 1), .int (y 2), .int (y 3), .int (y 4), .int (y 5), .int (y 6), .int (y 7), .int (y 8), .int (y 9), .int (y 10), .ref (w 1), .ref (w 2), .ref (w 3), .ref (w 4), .ref (w 5)])), (o, .inr (2, [.int it, .int sz_, .ref q, .int so])), (q, .inl (k 1, 40, .inr (.inl lf)))] H := hP
              have hD : va_D A [((mo 0), .inr (1, [.ref (mo 1), .int z_25])), ((mo 1), .inl (k 0, 10, .inl f_20)), ((w 0), .inr (5, [.int (y 0), .int (y 1), .int (y 2), .int (y 3), .int (y 4), .int (y 5), .int (y 6), .int (y 7), .int (y 8), .int (y 9), .int (y 10), .ref (w 1), .ref (w 2), .ref (w 3), .ref (w 4), .ref (w 5)])), (o, .inr (2, [.int it, .int sz_, .ref q, .int so])), (q, .inl (k 1, 40, .inr (.inl lf)))] := hD
              obtain ⟨z_26, ez_26⟩ : ∃ y : Int32, y = i_4 + 1 := ⟨_, rfl⟩
              have tz_26 : z_26.toInt = i_4.toInt + 1 := by rw [ez_26]; exact ti_addc (by decide) (by omega) (by omega)
              refine lv_iinc (v := z_26) (lv' := [(4, .int z_26), (3, .int z_24), (5, .long z_13), (0, .ref (mo 0)), (1, .ref (w 0)), (2, .ref o)]) hx hb dX2_takeOrder_111 hl (k := 2) rfl (ez_26.symm) (by decide) rfl (fun ls hl => ?_)
              refine lv_goto (tgt := 26) hx hb dX2_takeOrder_114 (by decide) ?_
              obtain rfl : z_26 = z_25 := ti_of (by omega)
              have hP : va_P D vwCl [((mo 0), .inr (1, [.ref (mo 1), .int z_26])), ((mo 1), .inl (k 0, 10, .inl f_20)), ((w 0), .inr (5, [.int (y 0), .int (y 1), .int (y 2), .int (y 3), .int (y 4), .int (y 5), .int (y 6), .int (y 7), .int (y 8), .int (y 9), .int (y 10), .ref (w 1), .ref (w 2), .ref (w 3), .ref (w 4), .ref (w 5)])), (o, .inr (2, [.int it, .int sz_, .ref q, .int so])), (q, .inl (k 1, 40, .inr (.inl lf)))] H := hP
              have hD : va_D A [((mo 0), .inr (1, [.ref (mo 1), .int z_26])), ((mo 1), .inl (k 0, 10, .inl f_20)), ((w 0), .inr (5, [.int (y 0), .int (y 1), .int (y 2), .int (y 3), .int (y 4), .int (y 5), .int (y 6), .int (y 7), .int (y 8), .int (y 9), .int (y 10), .ref (w 1), .ref (w 2), .ref (w 3), .ref (w 4), .ref (w 5)])), (o, .inr (2, [.int it, .int sz_, .ref q, .int so])), (q, .inl (k 1, 40, .inr (.inl lf)))] := hD
              exact ih26 (z_26, f_20, z_24) _ _ ls (by show (10 - z_26.toInt).toNat < (10 - i_4.toInt).toNat; omega) ⟨(show 0 ≤ z_26.toInt ∧ z_26.toInt ≤ 10 from ⟨by omega, by omega⟩), hf_20, hP.sub [0, 1, 2, 3, 4] rfl, hD.sub [0, 1, 2, 3, 4] (by decide) rfl, hS, lv_sub hl [0, 1, 3, 4, 5] rfl⟩
            · have c_18 : r_17.toInt = 0 := ti_eq c_18
              have qc_18 : r_17 = 0 := ti_of (show r_17.toInt = 0 from by omega)
              refine lv_iconst (v := 0) hx hb dX2_takeOrder_79 (by decide) ?_
              exact W.zret (v := 0) hx hb hr rfl (fun t ht hW => ⟨⟨0, (i_4, f_5), rfl, ⟨⟨by decide, by decide⟩, (show 0 ≤ i_4.toInt ∧ i_4.toInt ≤ 10 from ⟨by omega, by omega⟩), (show ∀ j : Nat, 0 ≤ (f_5 j).toInt ∧ (f_5 j).toInt ≤ 9 from h_8)⟩, by rw [ht]; exact hP.sub [0, 1, 2, 3, 4] rfl, hD.sub [0, 1, 2, 3, 4] (by decide) rfl⟩, hS.F ht⟩) hS.2.2 dX2_takeOrder_80
          · have h_15 : z_13.toInt = (y 0).toInt := by have q := Int32.toInt_toInt64 (y 0); omega
            refine lv_ni (v := 0) eh_15 ?_
            refine lv_if_ge (tgt := 79) hx hb dX2_takeOrder_66 (by decide) (fun _ => ?_) (fun c9 => absurd c9 (by decide))
            refine lv_iconst (v := 0) hx hb dX2_takeOrder_79 (by decide) ?_
            exact W.zret (v := 0) hx hb hr rfl (fun t ht hW => ⟨⟨0, (i_4, f_5), rfl, ⟨⟨by decide, by decide⟩, (show 0 ≤ i_4.toInt ∧ i_4.toInt ≤ 10 from ⟨by omega, by omega⟩), (show ∀ j : Nat, 0 ≤ (f_5 j).toInt ∧ (f_5 j).toInt ≤ 9 from h_8)⟩, by rw [ht]; exact hP.sub [0, 1, 2, 3, 4] rfl, hD.sub [0, 1, 2, 3, 4] (by decide) rfl⟩, hS.F ht⟩) hS.2.2 dX2_takeOrder_80
          · have h_15 : z_13.toInt > (y 0).toInt := by have q := Int32.toInt_toInt64 (y 0); omega
            refine lv_ni (v := 1) eh_15 ?_
            refine lv_if_ge (tgt := 79) hx hb dX2_takeOrder_66 (by decide) (fun _ => ?_) (fun c9 => absurd c9 (by decide))
            refine lv_iconst (v := 0) hx hb dX2_takeOrder_79 (by decide) ?_
            exact W.zret (v := 0) hx hb hr rfl (fun t ht hW => ⟨⟨0, (i_4, f_5), rfl, ⟨⟨by decide, by decide⟩, (show 0 ≤ i_4.toInt ∧ i_4.toInt ≤ 10 from ⟨by omega, by omega⟩), (show ∀ j : Nat, 0 ≤ (f_5 j).toInt ∧ (f_5 j).toInt ≤ 9 from h_8)⟩, by rw [ht]; exact hP.sub [0, 1, 2, 3, 4] rfl, hD.sub [0, 1, 2, 3, 4] (by decide) rfl⟩, hS.F ht⟩) hS.2.2 dX2_takeOrder_80
        · have h_14 : z_13.toInt > 0 := h_14
          refine lv_ni (v := 1) eh_14 ?_
          refine lv_if_lt (tgt := 79) hx hb dX2_takeOrder_55 (by decide) (fun c9 => absurd c9 (by decide)) (fun _ => ?_)
          refine lv_lload hx hb dX2_takeOrder_58 (lv_at hl 0 rfl) ?_
          refine lv_aload_n hx hb dX2_takeOrder_60 rfl (lv_at hl 4 rfl) ?_
          refine va_get (D := D) (ci := 5) (v := .int (y 0)) (C := RX6) (T := TX6) (N := 16) hx hb hts inlX6 hown hK hP 2 rfl rfl 0 (by decide) (hts _ mw_1033) (fun _ h9 => h9) rfl dX2_takeOrder_61 ?_
          refine lv_i2l (v := (y 0).toInt64) hx hb dX2_takeOrder_64 rfl ?_
          refine W.lcmp hx hb dX2_takeOrder_65 ?_
          rcases lg3 z_13 ((y 0).toInt64) with ⟨h_27, eh_27⟩ | ⟨h_27, eh_27⟩ | ⟨h_27, eh_27⟩
          · have h_27 : z_13.toInt < (y 0).toInt := by have q := Int32.toInt_toInt64 (y 0); omega
            refine lv_ni (v := (-1)) eh_27 ?_
            refine lv_if_ge (tgt := 79) hx hb dX2_takeOrder_66 (by decide) (fun c9 => absurd c9 (by decide)) (fun _ => ?_)
            refine lv_iload_n hx hb dX2_takeOrder_69 rfl (lv_at hl 2 rfl) ?_
            refine lv_lload hx hb dX2_takeOrder_70 (lv_at hl 0 rfl) ?_
            refine lv_l2i hx hb dX2_takeOrder_72 rfl ?_
            refine lv_topi (fun z_28 ez_28 => ?_)
            have tz_28 : z_28.toInt = z_13.toInt := by rw [ez_28]; exact ti_l2i (by omega) (by omega)
            refine kSN_i (As := [.int y_6, .int z_28]) (rest := []) ⟨hx, hb, hml, hown, hts⟩ (s_T_bit l D k y_6 z_28) mw_370 mw_2 mw_369 (host := "ThatchNext") (List.mem_of_getElem? (i := 11) rfl) hd_yX7_bit rfl rfl ⟨Nat.le_of_ble_eq_true rfl, Nat.le_of_ble_eq_true rfl⟩ hK hN0 (hP.sub [] rfl) rfl hl.1 rfl (Nat.le_of_ble_eq_true rfl) dX2_takeOrder_73 ⟨Nat.le_of_ble_eq_true rfl, Nat.le_of_ble_eq_true rfl⟩ (fun r_29 hr_29 => ?_)
            have hr_29 : 0 ≤ r_29.toInt ∧ r_29.toInt ≤ 1 := hr_29
            refine lv_if_ne (tgt := 81) hx hb dX2_takeOrder_76 (by decide) (fun c_30 => ?_) (fun c_30 => ?_)
            · have c_30 : r_29.toInt ≠ 0 := ti_ne c_30
              have qc_30 : r_29 = 1 := ti_of (show r_29.toInt = 1 from by omega)
              refine lv_aload_n hx hb dX2_takeOrder_81 rfl (lv_at hl 3 rfl) ?_
              refine va_get (D := D) (ci := 1) (v := .ref (mo 1)) (C := RX2) (T := TX2) (N := 2) hx hb hts inlX2 hown hK hP 0 rfl rfl 0 (by decide) (hts _ mw_69) (fun _ h9 => h9) rfl dX2_takeOrder_82 ?_
              refine lv_iload hx hb dX2_takeOrder_85 (lv_at hl 1 rfl) ?_
              refine lv_lload hx hb dX2_takeOrder_87 (lv_at hl 0 rfl) ?_
              refine lv_l2i hx hb dX2_takeOrder_89 rfl ?_
              refine lv_topi (fun z_31 ez_31 => ?_)
              have tz_31 : z_31.toInt = z_13.toInt := by rw [ez_31]; exact ti_l2i (by omega) (by omega)
              refine va_iast hx hb hK hP hD hS 1 0 rfl rfl (vp_in_o (by omega) (by omega)) dX2_takeOrder_90 (fun H locs hP hD hS => ?_)
              have hP : va_P D vwCl [((mo 0), .inr (1, [.ref (mo 1), .int i_4])), ((mo 1), .inl (k 0, 10, .inl (upd f_5 i_4.toNatClampNeg z_31))), ((w 0), .inr (5, [.int (y 0), .int (y 1), .int (y 2), .int (y 3), .int (y 4), .int (y 5), .int (y 6), .int (y 7), .int (y 8), .int (y 9), .int (y 10), .ref (w 1), .ref (w 2), .ref (w 3), .ref (w 4), .ref (w 5)])), (o, .inr (2, [.int it, .int sz_, .ref q, .int so])), (q, .inl (k 1, 40, .inr (.inl lf)))] H := hP
              have hD : va_D A [((mo 0), .inr (1, [.ref (mo 1), .int i_4])), ((mo 1), .inl (k 0, 10, .inl (upd f_5 i_4.toNatClampNeg z_31))), ((w 0), .inr (5, [.int (y 0), .int (y 1), .int (y 2), .int (y 3), .int (y 4), .int (y 5), .int (y 6), .int (y 7), .int (y 8), .int (y 9), .int (y 10), .ref (w 1), .ref (w 2), .ref (w 3), .ref (w 4), .ref (w 5)])), (o, .inr (2, [.int it, .int sz_, .ref q, .int so])), (q, .inl (k 1, 40, .inr (.inl lf)))] := hD
              generalize ef_32 : (upd f_5 i_4.toNatClampNeg z_31) = f_32 at hP hD
              have hf_32 : ∀ j : Nat, 0 ≤ (f_32 j).toInt ∧ (f_32 j).toInt ≤ 9 := by rw [← ef_32]; exact upd_rng h_8 ⟨by omega, by omega⟩
              refine lv_iload_n hx hb dX2_takeOrder_91 rfl (lv_at hl 2 rfl) ?_
              refine lv_iconst (v := 1) hx hb dX2_takeOrder_92 (by decide) ?_
              refine lv_lload hx hb dX2_takeOrder_93 (lv_at hl 0 rfl) ?_
              refine lv_l2i hx hb dX2_takeOrder_95 rfl ?_
              refine lv_topi (fun z_33 ez_33 => ?_)
              have tz_33 : z_33.toInt = z_13.toInt := by rw [ez_33]; exact ti_l2i (by omega) (by omega)
              refine lv_ishl hx hb dX2_takeOrder_96 ?_
              refine lv_topi (fun z_34 ez_34 => ?_)
              refine lv_iconst (v := (-1)) hx hb dX2_takeOrder_97 (by decide) ?_
              refine lv_ixor hx hb dX2_takeOrder_98 ?_
              refine lv_topi (fun z_35 ez_35 => ?_)
              refine lv_iand hx hb dX2_takeOrder_99 ?_
              refine lv_topi (fun z_36 ez_36 => ?_)
              refine lv_istore_n (lv' := [(3, .int z_36), (5, .long z_13), (4, .int i_4), (0, .ref (mo 0)), (1, .ref (w 0)), (2, .ref o)]) hx hb dX2_takeOrder_100 rfl hl (by decide) rfl (fun ls hl => ?_)
              refine lv_aload_n hx hb dX2_takeOrder_101 rfl (lv_at hl 3 rfl) ?_
              refine lv_dup hx hb dX2_takeOrder_102 rfl ?_
              refine va_get (D := D) (ci := 1) (v := .int i_4) (C := RX2) (T := TX2) (N := 2) hx hb hts inlX2 hown hK hP 0 rfl rfl 1 (by decide) (hts _ mw_982) (fun _ h9 => h9) rfl dX2_takeOrder_103 ?_
              refine lv_iconst (v := 1) hx hb dX2_takeOrder_106 (by decide) ?_
              refine lv_iadd hx hb dX2_takeOrder_107 ?_
              refine lv_topi (fun z_37 ez_37 => ?_)
              have tz_37 : z_37.toInt = i_4.toInt + 1 := by rw [ez_37]; exact ti_addc (by decide) (by omega) (by omega)
              refine va_put (D := D) (ci := 1) (v := .int z_37) (ty := .int) (C := RX2) (T := TX2) (N := 2) hx hb hts inlX2 tyX2 tyX2_ok nmX2 hown hK hP hD hS 0 rfl rfl 1 (by decide) (hts _ mw_982) (fun _ h9 => h9) rfl (by decide +kernel) rfl rfl (Nat.le_of_ble_eq_true rfl) dX2_takeOrder_108 (fun H locs hP hD hS => ?_)
              have hP : va_P D vwCl [((mo 0), .inr (1, [.ref (mo 1), .int z_37])), ((mo 1), .inl (k 0, 10, .inl f_32)), ((w 0), .inr (5, [.int (y 0), .int (y 1), .int (y 2), .int (y 3), .int (y 4), .int (y 5), .int (y 6), .int (y 7), .int (y 8), .int (y 9), .int (y 10), .ref (w 1), .ref (w 2), .ref (w 3), .ref (w 4), .ref (w 5)])), (o, .inr (2, [.int it, .int sz_, .ref q, .int so])), (q, .inl (k 1, 40, .inr (.inl lf)))] H := hP
              have hD : va_D A [((mo 0), .inr (1, [.ref (mo 1), .int z_37])), ((mo 1), .inl (k 0, 10, .inl f_32)), ((w 0), .inr (5, [.int (y 0), .int (y 1), .int (y 2), .int (y 3), .int (y 4), .int (y 5), .int (y 6), .int (y 7), .int (y 8), .int (y 9), .int (y 10), .ref (w 1), .ref (w 2), .ref (w 3), .ref (w 4), .ref (w 5)])), (o, .inr (2, [.int it, .int sz_, .ref q, .int so])), (q, .inl (k 1, 40, .inr (.inl lf)))] := hD
              obtain ⟨z_38, ez_38⟩ : ∃ y : Int32, y = i_4 + 1 := ⟨_, rfl⟩
              have tz_38 : z_38.toInt = i_4.toInt + 1 := by rw [ez_38]; exact ti_addc (by decide) (by omega) (by omega)
              refine lv_iinc (v := z_38) (lv' := [(4, .int z_38), (3, .int z_36), (5, .long z_13), (0, .ref (mo 0)), (1, .ref (w 0)), (2, .ref o)]) hx hb dX2_takeOrder_111 hl (k := 2) rfl (ez_38.symm) (by decide) rfl (fun ls hl => ?_)
              refine lv_goto (tgt := 26) hx hb dX2_takeOrder_114 (by decide) ?_
              obtain rfl : z_38 = z_37 := ti_of (by omega)
              have hP : va_P D vwCl [((mo 0), .inr (1, [.ref (mo 1), .int z_38])), ((mo 1), .inl (k 0, 10, .inl f_32)), ((w 0), .inr (5, [.int (y 0), .int (y 1), .int (y 2), .int (y 3), .int (y 4), .int (y 5), .int (y 6), .int (y 7), .int (y 8), .int (y 9), .int (y 10), .ref (w 1), .ref (w 2), .ref (w 3), .ref (w 4), .ref (w 5)])), (o, .inr (2, [.int it, .int sz_, .ref q, .int so])), (q, .inl (k 1, 40, .inr (.inl lf)))] H := hP
              have hD : va_D A [((mo 0), .inr (1, [.ref (mo 1), .int z_38])), ((mo 1), .inl (k 0, 10, .inl f_32)), ((w 0), .inr (5, [.int (y 0), .int (y 1), .int (y 2), .int (y 3), .int (y 4), .int (y 5), .int (y 6), .int (y 7), .int (y 8), .int (y 9), .int (y 10), .ref (w 1), .ref (w 2), .ref (w 3), .ref (w 4), .ref (w 5)])), (o, .inr (2, [.int it, .int sz_, .ref q, .int so])), (q, .inl (k 1, 40, .inr (.inl lf)))] := hD
              exact ih26 (z_38, f_32, z_36) _ _ ls (by show (10 - z_38.toInt).toNat < (10 - i_4.toInt).toNat; omega) ⟨(show 0 ≤ z_38.toInt ∧ z_38.toInt ≤ 10 from ⟨by omega, by omega⟩), hf_32, hP.sub [0, 1, 2, 3, 4] rfl, hD.sub [0, 1, 2, 3, 4] (by decide) rfl, hS, lv_sub hl [0, 1, 3, 4, 5] rfl⟩
            · have c_30 : r_29.toInt = 0 := ti_eq c_30
              have qc_30 : r_29 = 0 := ti_of (show r_29.toInt = 0 from by omega)
              refine lv_iconst (v := 0) hx hb dX2_takeOrder_79 (by decide) ?_
              exact W.zret (v := 0) hx hb hr rfl (fun t ht hW => ⟨⟨0, (i_4, f_5), rfl, ⟨⟨by decide, by decide⟩, (show 0 ≤ i_4.toInt ∧ i_4.toInt ≤ 10 from ⟨by omega, by omega⟩), (show ∀ j : Nat, 0 ≤ (f_5 j).toInt ∧ (f_5 j).toInt ≤ 9 from h_8)⟩, by rw [ht]; exact hP.sub [0, 1, 2, 3, 4] rfl, hD.sub [0, 1, 2, 3, 4] (by decide) rfl⟩, hS.F ht⟩) hS.2.2 dX2_takeOrder_80
          · have h_27 : z_13.toInt = (y 0).toInt := by have q := Int32.toInt_toInt64 (y 0); omega
            refine lv_ni (v := 0) eh_27 ?_
            refine lv_if_ge (tgt := 79) hx hb dX2_takeOrder_66 (by decide) (fun _ => ?_) (fun c9 => absurd c9 (by decide))
            refine lv_iconst (v := 0) hx hb dX2_takeOrder_79 (by decide) ?_
            exact W.zret (v := 0) hx hb hr rfl (fun t ht hW => ⟨⟨0, (i_4, f_5), rfl, ⟨⟨by decide, by decide⟩, (show 0 ≤ i_4.toInt ∧ i_4.toInt ≤ 10 from ⟨by omega, by omega⟩), (show ∀ j : Nat, 0 ≤ (f_5 j).toInt ∧ (f_5 j).toInt ≤ 9 from h_8)⟩, by rw [ht]; exact hP.sub [0, 1, 2, 3, 4] rfl, hD.sub [0, 1, 2, 3, 4] (by decide) rfl⟩, hS.F ht⟩) hS.2.2 dX2_takeOrder_80
          · have h_27 : z_13.toInt > (y 0).toInt := by have q := Int32.toInt_toInt64 (y 0); omega
            refine lv_ni (v := 1) eh_27 ?_
            refine lv_if_ge (tgt := 79) hx hb dX2_takeOrder_66 (by decide) (fun _ => ?_) (fun c9 => absurd c9 (by decide))
            refine lv_iconst (v := 0) hx hb dX2_takeOrder_79 (by decide) ?_
            exact W.zret (v := 0) hx hb hr rfl (fun t ht hW => ⟨⟨0, (i_4, f_5), rfl, ⟨⟨by decide, by decide⟩, (show 0 ≤ i_4.toInt ∧ i_4.toInt ≤ 10 from ⟨by omega, by omega⟩), (show ∀ j : Nat, 0 ≤ (f_5 j).toInt ∧ (f_5 j).toInt ≤ 9 from h_8)⟩, by rw [ht]; exact hP.sub [0, 1, 2, 3, 4] rfl, hD.sub [0, 1, 2, 3, 4] (by decide) rfl⟩, hS.F ht⟩) hS.2.2 dX2_takeOrder_80
  · have c_3 : sz_.toInt ≠ r_2.toInt := ti_ne c_3
    refine lv_iconst (v := 0) hx hb dX2_takeOrder_21 (by decide) ?_
    exact W.zret (v := 0) hx hb hr rfl (fun t ht hW => ⟨⟨0, (0, of), rfl, ⟨⟨by decide, by decide⟩, (show 0 ≤ (0 : Int32).toInt ∧ (0 : Int32).toInt ≤ 10 from ⟨by decide, by decide⟩), (show ∀ j : Nat, 0 ≤ (of j).toInt ∧ (of j).toInt ≤ 9 from w_hof)⟩, by rw [ht]; exact hP.sub [0, 1, 2, 3, 4] rfl, hD.sub [0, 1, 2, 3, 4] (by decide) rfl⟩, hS.F ht⟩) hS.2.2 dX2_takeOrder_22
set_option maxHeartbeats 4000000 in
set_option maxRecDepth 100000 in
theorem s_E_wetIn (l : Launch) (D : va_G) (k : Nat → ClassId) (mo : Nat → Nat) (of : Nat → Int32) (ms : Int32) (w : Nat → Nat) (y : Nat → Int32) (g : Nat → Nat → Int32) (x : Int32) (w_hof : ∀ j : Nat, 0 ≤ (of j).toInt ∧ (of j).toInt ≤ 9) (w_hms : 0 ≤ ms.toInt ∧ ms.toInt ≤ 10) (w_h0 : 0 ≤ (y 0).toInt ∧ (y 0).toInt ≤ 10) (w_h2 : 0 ≤ (y 2).toInt ∧ (y 2).toInt ≤ 6) (w_h6 : 0 ≤ (y 6).toInt ∧ (y 6).toInt ≤ 1) (w_hd : ∀ j : Nat, 0 ≤ ((g 1) j).toInt ∧ ((g 1) j).toInt ≤ 6) (w_hx : 0 ≤ x.toInt ∧ x.toInt ≤ 39) : Met l yX2_wetIn (Cond.code yX2_wetIn cX2_wetIn 5 (some .int) :: wsL_law) ({ frames := 4, cells := 0, slots := 0, locals := 240 } : Room) (va_Pc [.ref (mo 0), .int x, .ref (w 0)] (pr D k [((mo 0), .inr (1, [.ref (mo 1), .int ms])), ((mo 1), .inl (k 0, 10, .inl of)), ((w 0), .inr (5, [.int (y 0), .int (y 1), .int (y 2), .int (y 3), .int (y 4), .int (y 5), .int (y 6), .int (y 7), .int (y 8), .int (y 9), .int (y 10), .ref (w 1), .ref (w 2), .ref (w 3), .ref (w 4), .ref (w 5)])), ((w 1), .inl (k 0, 10, .inl (g 1))), ((w 3), .inl (k 0, 60, .inl (g 3)))])) (vp_Si (fun rr => True)) 0 0 (fun _ => False) := by
  refine Met.ofW (cc := cX2_wetIn) (maxL := 5) (ret := (some .int)) (by decide) rfl ?_
  intro p e s m args below meth c s₁ B hml hv
  obtain ⟨rfl, hP, hK, hN0⟩ := hv
  have hx := B.exec
  have hb := B.bytes
  have hr := B.returns
  have hts : ∀ w ∈ wsL_law, w.before _ s = true := fun w h => atoms_spec (ws := Cond.code yX2_wetIn cX2_wetIn 5 (some .int) :: wsL_law) B.pre w (List.mem_cons_of_mem _ h)
  have hown : s.vm.findClass RX2 = some m.cls := findClass_of_methodNamed B.named
  have hlocks := B.notSynchronized
  have hP : va_P D vwCl [((mo 0), .inr (1, [.ref (mo 1), .int ms])), ((mo 1), .inl (k 0, 10, .inl of)), ((w 0), .inr (5, [.int (y 0), .int (y 1), .int (y 2), .int (y 3), .int (y 4), .int (y 5), .int (y 6), .int (y 7), .int (y 8), .int (y 9), .int (y 10), .ref (w 1), .ref (w 2), .ref (w 3), .ref (w 4), .ref (w 5)])), ((w 1), .inl (k 0, 10, .inl (g 1))), ((w 3), .inl (k 0, 60, .inl (g 3)))] s.heap := hP
  have hl := lv_entry ([.ref (mo 0), .int x, .ref (w 0)]) (n := 5) (Nat.le_of_ble_eq_true rfl)
  rw [lg_entry_eq]
  generalize (lg_sl ([.ref (mo 0), .int x, .ref (w 0)]) ++ List.replicate (5 - (lg_sl ([.ref (mo 0), .int x, .ref (w 0)])).length) Slot.unset).toArray = ls at hl ⊢
  have hl : lv_has ls 5 [(0, .ref (mo 0)), (1, .int x), (2, .ref (w 0))] := hl
  refine lv_iload_n hx hb dX2_wetIn_0 rfl (lv_at hl 1 rfl) ?_
  refine lv_aload_n hx hb dX2_wetIn_1 rfl (lv_at hl 0 rfl) ?_
  refine va_get (D := D) (ci := 1) (v := .int ms) (C := RX2) (T := TX2) (N := 2) hx hb hts inlX2 hown hK hP 0 rfl rfl 1 (by decide) (hts _ mw_982) (fun _ h9 => h9) rfl dX2_wetIn_2 ?_
  refine lv_icmp_ge (tgt := 12) hx hb dX2_wetIn_5 (by decide) (fun c_1 => ?_) (fun c_1 => ?_)
  · have c_1 : ms.toInt ≤ x.toInt := ti_le c_1
    refine lv_iconst (v := 0) hx hb dX2_wetIn_12 (by decide) ?_
    refine lv_istore_n (lv' := [(3, .int 0), (0, .ref (mo 0)), (1, .int x), (2, .ref (w 0))]) hx hb dX2_wetIn_13 rfl hl (by decide) rfl (fun ls hl => ?_)
    refine lv_iload_n hx hb dX2_wetIn_14 rfl (lv_at hl 2 rfl) ?_
    refine lv_iconst (v := 1) hx hb dX2_wetIn_15 (by decide) ?_
    refine lv_iadd hx hb dX2_wetIn_16 ?_
    refine lv_topi (fun z_2 ez_2 => ?_)
    have tz_2 : z_2.toInt = x.toInt + 1 := by rw [ez_2]; exact ti_addc (by decide) (by omega) (by omega)
    refine lv_istore (lv' := [(4, .int z_2), (3, .int 0), (0, .ref (mo 0)), (1, .int x), (2, .ref (w 0))]) hx hb dX2_wetIn_17 hl (by decide) rfl (fun ls hl => ?_)
    refine W_loop (σ := Int32 × Int32) (fun xx H locs ls => (1 ≤ xx.1.toInt ∧ xx.1.toInt ≤ 50) ∧ va_P D vwCl [((mo 0), .inr (1, [.ref (mo 1), .int ms])), ((mo 1), .inl (k 0, 10, .inl of)), ((w 0), .inr (5, [.int (y 0), .int (y 1), .int (y 2), .int (y 3), .int (y 4), .int (y 5), .int (y 6), .int (y 7), .int (y 8), .int (y 9), .int (y 10), .ref (w 1), .ref (w 2), .ref (w 3), .ref (w 4), .ref (w 5)])), ((w 1), .inl (k 0, 10, .inl (g 1))), ((w 3), .inl (k 0, 60, .inl (g 3)))] H ∧ H = s.heap ∧ locs = [] ∧ lv_has ls 5 [(4, .int xx.1), (3, .int xx.2), (0, .ref (mo 0)), (1, .int x), (2, .ref (w 0))]) (fun xx => (50 - xx.1.toInt).toNat) ?_ (z_2, 0) _ _ ls ⟨(show 1 ≤ z_2.toInt ∧ z_2.toInt ≤ 50 from ⟨by omega, by omega⟩), hP.sub [0, 1, 2, 3, 4] rfl, rfl, rfl, lv_sub hl [0, 1, 2, 3, 4] rfl⟩
    intro xx H locs ls hI ih19
    obtain ⟨i_3, y_4⟩ := xx
    obtain ⟨h_5, hP, rfl, rfl, hl⟩ := hI
    have h_5 : 1 ≤ i_3.toInt ∧ i_3.toInt ≤ 50 := h_5
    obtain ⟨h_5a, h_5b⟩ := h_5
    have hP : va_P D vwCl [((mo 0), .inr (1, [.ref (mo 1), .int ms])), ((mo 1), .inl (k 0, 10, .inl of)), ((w 0), .inr (5, [.int (y 0), .int (y 1), .int (y 2), .int (y 3), .int (y 4), .int (y 5), .int (y 6), .int (y 7), .int (y 8), .int (y 9), .int (y 10), .ref (w 1), .ref (w 2), .ref (w 3), .ref (w 4), .ref (w 5)])), ((w 1), .inl (k 0, 10, .inl (g 1))), ((w 3), .inl (k 0, 60, .inl (g 3)))] s.heap := hP
    have hl : lv_has ls 5 [(4, .int i_3), (3, .int y_4), (0, .ref (mo 0)), (1, .int x), (2, .ref (w 0))] := hl
    refine lv_iload hx hb dX2_wetIn_19 (lv_at hl 0 rfl) ?_
    refine lv_aload_n hx hb dX2_wetIn_21 rfl (lv_at hl 2 rfl) ?_
    refine va_get (D := D) (ci := 1) (v := .int ms) (C := RX2) (T := TX2) (N := 2) hx hb hts inlX2 hown hK hP 0 rfl rfl 1 (by decide) (hts _ mw_982) (fun _ h9 => h9) rfl dX2_wetIn_22 ?_
    refine lv_icmp_ge (tgt := 56) hx hb dX2_wetIn_25 (by decide) (fun c_6 => ?_) (fun c_6 => ?_)
    · have c_6 : ms.toInt ≤ i_3.toInt := ti_le c_6
      refine lv_iload_n hx hb dX2_wetIn_56 rfl (lv_at hl 1 rfl) ?_
      exact W.iret (v := y_4) hx hb hr (fun t ht hW => ⟨y_4, rfl, trivial, ht⟩) (fun q h => by cases h) dX2_wetIn_57
    · have c_6 : i_3.toInt < ms.toInt := ti_nle c_6
      refine lv_iload_n hx hb dX2_wetIn_28 rfl (lv_at hl 1 rfl) ?_
      refine lv_aload_n hx hb dX2_wetIn_29 rfl (lv_at hl 4 rfl) ?_
      refine lv_aload_n hx hb dX2_wetIn_30 rfl (lv_at hl 2 rfl) ?_
      refine va_get (D := D) (ci := 1) (v := .ref (mo 1)) (C := RX2) (T := TX2) (N := 2) hx hb hts inlX2 hown hK hP 0 rfl rfl 0 (by decide) (hts _ mw_69) (fun _ h9 => h9) rfl dX2_wetIn_31 ?_
      refine lv_iload hx hb dX2_wetIn_34 (lv_at hl 0 rfl) ?_
      refine va_iald hx hb hK hP 1 0 rfl rfl (vp_in_o (by omega) (by omega)) dX2_wetIn_36 ?_
      refine lv_topi (fun z_7 ez_7 => ?_)
      have bz_7 : 0 ≤ z_7.toInt ∧ z_7.toInt ≤ 9 := by rw [ez_7]; exact w_hof _
      refine kV_i (q0 := 0) (As := [.int z_7]) (rest := [.int y_4]) ⟨hx, hb, hml, hown, hts⟩ (s_W_isLeaking l D k _ y g z_7 (show 0 ≤ (y 0).toInt ∧ (y 0).toInt ≤ 10 from ⟨by omega, by omega⟩) (show 0 ≤ (y 2).toInt ∧ (y 2).toInt ≤ 6 from ⟨by omega, by omega⟩) (show 0 ≤ (y 6).toInt ∧ (y 6).toInt ≤ 1 from ⟨by omega, by omega⟩) (show ∀ j : Nat, 0 ≤ ((g 1) j).toInt ∧ ((g 1) j).toInt ≤ 6 from w_hd) (show 0 ≤ z_7.toInt ∧ z_7.toInt ≤ 9 from ⟨by omega, by omega⟩)) (gV mw_1005 mw_376 mw_377 mw_19 mw_378) hd_yX6_isLeaking rfl rfl ⟨Nat.le_of_ble_eq_true rfl, Nat.le_of_ble_eq_true rfl⟩ hK hN0 (hP.sub [2, 3, 4] rfl) rfl rfl rfl rfl hl.1 rfl (Nat.le_of_ble_eq_true rfl) dX2_wetIn_37 ⟨Nat.le_of_ble_eq_true rfl, Nat.le_of_ble_eq_true rfl⟩ (fun r_8 hr_8 => ?_)
      have hr_8 : 0 ≤ r_8.toInt ∧ r_8.toInt ≤ 1 := hr_8
      refine lv_if_eq (tgt := 47) hx hb dX2_wetIn_40 (by decide) (fun c_9 => ?_) (fun c_9 => ?_)
      · have c_9 : r_8.toInt = 0 := ti_eq c_9
        have qc_9 : r_8 = 0 := ti_of (show r_8.toInt = 0 from by omega)
        refine lv_iconst (v := 0) hx hb dX2_wetIn_47 (by decide) ?_
        refine lv_iadd hx hb dX2_wetIn_48 ?_
        refine lv_ni (v := y_4) (iadd_0 _) ?_
        refine lv_istore_n (lv' := [(3, .int y_4), (4, .int i_3), (0, .ref (mo 0)), (1, .int x), (2, .ref (w 0))]) hx hb dX2_wetIn_49 rfl hl (by decide) rfl (fun ls hl => ?_)
        obtain ⟨z_10, ez_10⟩ : ∃ y : Int32, y = i_3 + 1 := ⟨_, rfl⟩
        have tz_10 : z_10.toInt = i_3.toInt + 1 := by rw [ez_10]; exact ti_addc (by decide) (by omega) (by omega)
        refine lv_iinc (v := z_10) (lv' := [(4, .int z_10), (3, .int y_4), (0, .ref (mo 0)), (1, .int x), (2, .ref (w 0))]) hx hb dX2_wetIn_50 hl (k := 1) rfl (ez_10.symm) (by decide) rfl (fun ls hl => ?_)
        refine lv_goto (tgt := 19) hx hb dX2_wetIn_53 (by decide) ?_
        exact ih19 (z_10, y_4) _ _ ls (by show (50 - z_10.toInt).toNat < (50 - i_3.toInt).toNat; omega) ⟨(show 1 ≤ z_10.toInt ∧ z_10.toInt ≤ 50 from ⟨by omega, by omega⟩), hP.sub [0, 1, 2, 3, 4] rfl, rfl, rfl, lv_sub hl [0, 1, 2, 3, 4] rfl⟩
      · have c_9 : r_8.toInt ≠ 0 := ti_ne c_9
        have qc_9 : r_8 = 1 := ti_of (show r_8.toInt = 1 from by omega)
        refine lv_iconst (v := 1) hx hb dX2_wetIn_43 (by decide) ?_
        refine lv_goto (tgt := 48) hx hb dX2_wetIn_44 (by decide) ?_
        refine lv_iadd hx hb dX2_wetIn_48 ?_
        refine lv_topi (fun z_11 ez_11 => ?_)
        refine lv_istore_n (lv' := [(3, .int z_11), (4, .int i_3), (0, .ref (mo 0)), (1, .int x), (2, .ref (w 0))]) hx hb dX2_wetIn_49 rfl hl (by decide) rfl (fun ls hl => ?_)
        obtain ⟨z_12, ez_12⟩ : ∃ y : Int32, y = i_3 + 1 := ⟨_, rfl⟩
        have tz_12 : z_12.toInt = i_3.toInt + 1 := by rw [ez_12]; exact ti_addc (by decide) (by omega) (by omega)
        refine lv_iinc (v := z_12) (lv' := [(4, .int z_12), (3, .int z_11), (0, .ref (mo 0)), (1, .int x), (2, .ref (w 0))]) hx hb dX2_wetIn_50 hl (k := 1) rfl (ez_12.symm) (by decide) rfl (fun ls hl => ?_)
        refine lv_goto (tgt := 19) hx hb dX2_wetIn_53 (by decide) ?_
        exact ih19 (z_12, z_11) _ _ ls (by show (50 - z_12.toInt).toNat < (50 - i_3.toInt).toNat; omega) ⟨(show 1 ≤ z_12.toInt ∧ z_12.toInt ≤ 50 from ⟨by omega, by omega⟩), hP.sub [0, 1, 2, 3, 4] rfl, rfl, rfl, lv_sub hl [0, 1, 2, 3, 4] rfl⟩
  · have c_1 : x.toInt < ms.toInt := ti_nle c_1
    refine lv_iconst (v := 1) hx hb dX2_wetIn_8 (by decide) ?_
    refine lv_goto (tgt := 13) hx hb dX2_wetIn_9 (by decide) ?_
    refine lv_istore_n (lv' := [(3, .int 1), (0, .ref (mo 0)), (1, .int x), (2, .ref (w 0))]) hx hb dX2_wetIn_13 rfl hl (by decide) rfl (fun ls hl => ?_)
    refine lv_iload_n hx hb dX2_wetIn_14 rfl (lv_at hl 2 rfl) ?_
    refine lv_iconst (v := 1) hx hb dX2_wetIn_15 (by decide) ?_
    refine lv_iadd hx hb dX2_wetIn_16 ?_
    refine lv_topi (fun z_13 ez_13 => ?_)
    have tz_13 : z_13.toInt = x.toInt + 1 := by rw [ez_13]; exact ti_addc (by decide) (by omega) (by omega)
    refine lv_istore (lv' := [(4, .int z_13), (3, .int 1), (0, .ref (mo 0)), (1, .int x), (2, .ref (w 0))]) hx hb dX2_wetIn_17 hl (by decide) rfl (fun ls hl => ?_)
    refine W_loop (σ := Int32 × Int32) (fun xx H locs ls => (1 ≤ xx.1.toInt ∧ xx.1.toInt ≤ 50) ∧ va_P D vwCl [((mo 0), .inr (1, [.ref (mo 1), .int ms])), ((mo 1), .inl (k 0, 10, .inl of)), ((w 0), .inr (5, [.int (y 0), .int (y 1), .int (y 2), .int (y 3), .int (y 4), .int (y 5), .int (y 6), .int (y 7), .int (y 8), .int (y 9), .int (y 10), .ref (w 1), .ref (w 2), .ref (w 3), .ref (w 4), .ref (w 5)])), ((w 1), .inl (k 0, 10, .inl (g 1))), ((w 3), .inl (k 0, 60, .inl (g 3)))] H ∧ H = s.heap ∧ locs = [] ∧ lv_has ls 5 [(4, .int xx.1), (3, .int xx.2), (0, .ref (mo 0)), (1, .int x), (2, .ref (w 0))]) (fun xx => (50 - xx.1.toInt).toNat) ?_ (z_13, 1) _ _ ls ⟨(show 1 ≤ z_13.toInt ∧ z_13.toInt ≤ 50 from ⟨by omega, by omega⟩), hP.sub [0, 1, 2, 3, 4] rfl, rfl, rfl, lv_sub hl [0, 1, 2, 3, 4] rfl⟩
    intro xx H locs ls hI ih19
    obtain ⟨i_14, y_15⟩ := xx
    obtain ⟨h_16, hP, rfl, rfl, hl⟩ := hI
    have h_16 : 1 ≤ i_14.toInt ∧ i_14.toInt ≤ 50 := h_16
    obtain ⟨h_16a, h_16b⟩ := h_16
    have hP : va_P D vwCl [((mo 0), .inr (1, [.ref (mo 1), .int ms])), ((mo 1), .inl (k 0, 10, .inl of)), ((w 0), .inr (5, [.int (y 0), .int (y 1), .int (y 2), .int (y 3), .int (y 4), .int (y 5), .int (y 6), .int (y 7), .int (y 8), .int (y 9), .int (y 10), .ref (w 1), .ref (w 2), .ref (w 3), .ref (w 4), .ref (w 5)])), ((w 1), .inl (k 0, 10, .inl (g 1))), ((w 3), .inl (k 0, 60, .inl (g 3)))] s.heap := hP
    have hl : lv_has ls 5 [(4, .int i_14), (3, .int y_15), (0, .ref (mo 0)), (1, .int x), (2, .ref (w 0))] := hl
    refine lv_iload hx hb dX2_wetIn_19 (lv_at hl 0 rfl) ?_
    refine lv_aload_n hx hb dX2_wetIn_21 rfl (lv_at hl 2 rfl) ?_
    refine va_get (D := D) (ci := 1) (v := .int ms) (C := RX2) (T := TX2) (N := 2) hx hb hts inlX2 hown hK hP 0 rfl rfl 1 (by decide) (hts _ mw_982) (fun _ h9 => h9) rfl dX2_wetIn_22 ?_
    refine lv_icmp_ge (tgt := 56) hx hb dX2_wetIn_25 (by decide) (fun c_17 => ?_) (fun c_17 => ?_)
    · have c_17 : ms.toInt ≤ i_14.toInt := ti_le c_17
      refine lv_iload_n hx hb dX2_wetIn_56 rfl (lv_at hl 1 rfl) ?_
      exact W.iret (v := y_15) hx hb hr (fun t ht hW => ⟨y_15, rfl, trivial, ht⟩) (fun q h => by cases h) dX2_wetIn_57
    · have c_17 : i_14.toInt < ms.toInt := ti_nle c_17
      refine lv_iload_n hx hb dX2_wetIn_28 rfl (lv_at hl 1 rfl) ?_
      refine lv_aload_n hx hb dX2_wetIn_29 rfl (lv_at hl 4 rfl) ?_
      refine lv_aload_n hx hb dX2_wetIn_30 rfl (lv_at hl 2 rfl) ?_
      refine va_get (D := D) (ci := 1) (v := .ref (mo 1)) (C := RX2) (T := TX2) (N := 2) hx hb hts inlX2 hown hK hP 0 rfl rfl 0 (by decide) (hts _ mw_69) (fun _ h9 => h9) rfl dX2_wetIn_31 ?_
      refine lv_iload hx hb dX2_wetIn_34 (lv_at hl 0 rfl) ?_
      refine va_iald hx hb hK hP 1 0 rfl rfl (vp_in_o (by omega) (by omega)) dX2_wetIn_36 ?_
      refine lv_topi (fun z_18 ez_18 => ?_)
      have bz_18 : 0 ≤ z_18.toInt ∧ z_18.toInt ≤ 9 := by rw [ez_18]; exact w_hof _
      refine kV_i (q0 := 0) (As := [.int z_18]) (rest := [.int y_15]) ⟨hx, hb, hml, hown, hts⟩ (s_W_isLeaking l D k _ y g z_18 (show 0 ≤ (y 0).toInt ∧ (y 0).toInt ≤ 10 from ⟨by omega, by omega⟩) (show 0 ≤ (y 2).toInt ∧ (y 2).toInt ≤ 6 from ⟨by omega, by omega⟩) (show 0 ≤ (y 6).toInt ∧ (y 6).toInt ≤ 1 from ⟨by omega, by omega⟩) (show ∀ j : Nat, 0 ≤ ((g 1) j).toInt ∧ ((g 1) j).toInt ≤ 6 from w_hd) (show 0 ≤ z_18.toInt ∧ z_18.toInt ≤ 9 from ⟨by omega, by omega⟩)) (gV mw_1005 mw_376 mw_377 mw_19 mw_378) hd_yX6_isLeaking rfl rfl ⟨Nat.le_of_ble_eq_true rfl, Nat.le_of_ble_eq_true rfl⟩ hK hN0 (hP.sub [2, 3, 4] rfl) rfl rfl rfl rfl hl.1 rfl (Nat.le_of_ble_eq_true rfl) dX2_wetIn_37 ⟨Nat.le_of_ble_eq_true rfl, Nat.le_of_ble_eq_true rfl⟩ (fun r_19 hr_19 => ?_)
      have hr_19 : 0 ≤ r_19.toInt ∧ r_19.toInt ≤ 1 := hr_19
      refine lv_if_eq (tgt := 47) hx hb dX2_wetIn_40 (by decide) (fun c_20 => ?_) (fun c_20 => ?_)
      · have c_20 : r_19.toInt = 0 := ti_eq c_20
        have qc_20 : r_19 = 0 := ti_of (show r_19.toInt = 0 from by omega)
        refine lv_iconst (v := 0) hx hb dX2_wetIn_47 (by decide) ?_
        refine lv_iadd hx hb dX2_wetIn_48 ?_
        refine lv_ni (v := y_15) (iadd_0 _) ?_
        refine lv_istore_n (lv' := [(3, .int y_15), (4, .int i_14), (0, .ref (mo 0)), (1, .int x), (2, .ref (w 0))]) hx hb dX2_wetIn_49 rfl hl (by decide) rfl (fun ls hl => ?_)
        obtain ⟨z_21, ez_21⟩ : ∃ y : Int32, y = i_14 + 1 := ⟨_, rfl⟩
        have tz_21 : z_21.toInt = i_14.toInt + 1 := by rw [ez_21]; exact ti_addc (by decide) (by omega) (by omega)
        refine lv_iinc (v := z_21) (lv' := [(4, .int z_21), (3, .int y_15), (0, .ref (mo 0)), (1, .int x), (2, .ref (w 0))]) hx hb dX2_wetIn_50 hl (k := 1) rfl (ez_21.symm) (by decide) rfl (fun ls hl => ?_)
        refine lv_goto (tgt := 19) hx hb dX2_wetIn_53 (by decide) ?_
        exact ih19 (z_21, y_15) _ _ ls (by show (50 - z_21.toInt).toNat < (50 - i_14.toInt).toNat; omega) ⟨(show 1 ≤ z_21.toInt ∧ z_21.toInt ≤ 50 from ⟨by omega, by omega⟩), hP.sub [0, 1, 2, 3, 4] rfl, rfl, rfl, lv_sub hl [0, 1, 2, 3, 4] rfl⟩
      · have c_20 : r_19.toInt ≠ 0 := ti_ne c_20
        have qc_20 : r_19 = 1 := ti_of (show r_19.toInt = 1 from by omega)
        refine lv_iconst (v := 1) hx hb dX2_wetIn_43 (by decide) ?_
        refine lv_goto (tgt := 48) hx hb dX2_wetIn_44 (by decide) ?_
        refine lv_iadd hx hb dX2_wetIn_48 ?_
        refine lv_topi (fun z_22 ez_22 => ?_)
        refine lv_istore_n (lv' := [(3, .int z_22), (4, .int i_14), (0, .ref (mo 0)), (1, .int x), (2, .ref (w 0))]) hx hb dX2_wetIn_49 rfl hl (by decide) rfl (fun ls hl => ?_)
        obtain ⟨z_23, ez_23⟩ : ∃ y : Int32, y = i_14 + 1 := ⟨_, rfl⟩
        have tz_23 : z_23.toInt = i_14.toInt + 1 := by rw [ez_23]; exact ti_addc (by decide) (by omega) (by omega)
        refine lv_iinc (v := z_23) (lv' := [(4, .int z_23), (3, .int z_22), (0, .ref (mo 0)), (1, .int x), (2, .ref (w 0))]) hx hb dX2_wetIn_50 hl (k := 1) rfl (ez_23.symm) (by decide) rfl (fun ls hl => ?_)
        refine lv_goto (tgt := 19) hx hb dX2_wetIn_53 (by decide) ?_
        exact ih19 (z_23, z_22) _ _ ls (by show (50 - z_23.toInt).toNat < (50 - i_14.toInt).toNat; omega) ⟨(show 1 ≤ z_23.toInt ∧ z_23.toInt ≤ 50 from ⟨by omega, by omega⟩), hP.sub [0, 1, 2, 3, 4] rfl, rfl, rfl, lv_sub hl [0, 1, 2, 3, 4] rfl⟩
set_option maxHeartbeats 4000000 in
set_option maxRecDepth 100000 in
theorem s_E_wettedBy (l : Launch) (D : va_G) (k : Nat → ClassId) (mo : Nat → Nat) (of : Nat → Int32) (ms : Int32) (w : Nat → Nat) (y : Nat → Int32) (g : Nat → Nat → Int32) (o : Nat) (q : Nat) (it : Int32) (sz_ : Int32) (so : Int32) (lf : Nat → Int64) (w_hof : ∀ j : Nat, 0 ≤ (of j).toInt ∧ (of j).toInt ≤ 9) (w_hms : 0 ≤ ms.toInt ∧ ms.toInt ≤ 10) (w_h0 : 0 ≤ (y 0).toInt ∧ (y 0).toInt ≤ 10) (w_h2 : 0 ≤ (y 2).toInt ∧ (y 2).toInt ≤ 6) (w_h6 : 0 ≤ (y 6).toInt ∧ (y 6).toInt ≤ 1) (w_hd : ∀ j : Nat, 0 ≤ ((g 1) j).toInt ∧ ((g 1) j).toInt ≤ 6) (w_hsz : 0 ≤ sz_.toInt ∧ sz_.toInt ≤ 40) : Met l yX2_wettedBy (Cond.code yX2_wettedBy cX2_wettedBy 5 (some .int) :: wsL_law) ({ frames := 5, cells := 0, slots := 0, locals := 300 } : Room) (va_Pc [.ref (mo 0), .ref (w 0), .ref o] (pr D k [((mo 0), .inr (1, [.ref (mo 1), .int ms])), ((mo 1), .inl (k 0, 10, .inl of)), ((w 0), .inr (5, [.int (y 0), .int (y 1), .int (y 2), .int (y 3), .int (y 4), .int (y 5), .int (y 6), .int (y 7), .int (y 8), .int (y 9), .int (y 10), .ref (w 1), .ref (w 2), .ref (w 3), .ref (w 4), .ref (w 5)])), ((w 1), .inl (k 0, 10, .inl (g 1))), ((w 3), .inl (k 0, 60, .inl (g 3))), (o, .inr (2, [.int it, .int sz_, .ref q, .int so])), (q, .inl (k 1, 40, .inr (.inl lf)))])) (vp_Si (fun rr => True)) 0 0 (fun _ => False) := by
  refine Met.ofW (cc := cX2_wettedBy) (maxL := 5) (ret := (some .int)) (by decide) rfl ?_
  intro p e s m args below meth c s₁ B hml hv
  obtain ⟨rfl, hP, hK, hN0⟩ := hv
  have hx := B.exec
  have hb := B.bytes
  have hr := B.returns
  have hts : ∀ w ∈ wsL_law, w.before _ s = true := fun w h => atoms_spec (ws := Cond.code yX2_wettedBy cX2_wettedBy 5 (some .int) :: wsL_law) B.pre w (List.mem_cons_of_mem _ h)
  have hown : s.vm.findClass RX2 = some m.cls := findClass_of_methodNamed B.named
  have hlocks := B.notSynchronized
  have hP : va_P D vwCl [((mo 0), .inr (1, [.ref (mo 1), .int ms])), ((mo 1), .inl (k 0, 10, .inl of)), ((w 0), .inr (5, [.int (y 0), .int (y 1), .int (y 2), .int (y 3), .int (y 4), .int (y 5), .int (y 6), .int (y 7), .int (y 8), .int (y 9), .int (y 10), .ref (w 1), .ref (w 2), .ref (w 3), .ref (w 4), .ref (w 5)])), ((w 1), .inl (k 0, 10, .inl (g 1))), ((w 3), .inl (k 0, 60, .inl (g 3))), (o, .inr (2, [.int it, .int sz_, .ref q, .int so])), (q, .inl (k 1, 40, .inr (.inl lf)))] s.heap := hP
  have hl := lv_entry ([.ref (mo 0), .ref (w 0), .ref o]) (n := 5) (Nat.le_of_ble_eq_true rfl)
  rw [lg_entry_eq]
  generalize (lg_sl ([.ref (mo 0), .ref (w 0), .ref o]) ++ List.replicate (5 - (lg_sl ([.ref (mo 0), .ref (w 0), .ref o])).length) Slot.unset).toArray = ls at hl ⊢
  have hl : lv_has ls 5 [(0, .ref (mo 0)), (1, .ref (w 0)), (2, .ref o)] := hl
  refine lv_iconst (v := 0) hx hb dX2_wettedBy_0 (by decide) ?_
  refine lv_istore_n (lv' := [(3, .int 0), (0, .ref (mo 0)), (1, .ref (w 0)), (2, .ref o)]) hx hb dX2_wettedBy_1 rfl hl (by decide) rfl (fun ls hl => ?_)
  refine lv_iconst (v := 0) hx hb dX2_wettedBy_2 (by decide) ?_
  refine lv_istore (lv' := [(4, .int 0), (3, .int 0), (0, .ref (mo 0)), (1, .ref (w 0)), (2, .ref o)]) hx hb dX2_wettedBy_3 hl (by decide) rfl (fun ls hl => ?_)
  refine W_loop (σ := Int32 × Int32) (fun xx H locs ls => (0 ≤ xx.1.toInt ∧ xx.1.toInt ≤ 40) ∧ va_P D vwCl [((mo 0), .inr (1, [.ref (mo 1), .int ms])), ((mo 1), .inl (k 0, 10, .inl of)), ((w 0), .inr (5, [.int (y 0), .int (y 1), .int (y 2), .int (y 3), .int (y 4), .int (y 5), .int (y 6), .int (y 7), .int (y 8), .int (y 9), .int (y 10), .ref (w 1), .ref (w 2), .ref (w 3), .ref (w 4), .ref (w 5)])), ((w 1), .inl (k 0, 10, .inl (g 1))), ((w 3), .inl (k 0, 60, .inl (g 3))), (o, .inr (2, [.int it, .int sz_, .ref q, .int so])), (q, .inl (k 1, 40, .inr (.inl lf)))] H ∧ H = s.heap ∧ locs = [] ∧ lv_has ls 5 [(4, .int xx.1), (3, .int xx.2), (0, .ref (mo 0)), (1, .ref (w 0)), (2, .ref o)]) (fun xx => (40 - xx.1.toInt).toNat) ?_ (0, 0) _ _ ls ⟨(show 0 ≤ (0 : Int32).toInt ∧ (0 : Int32).toInt ≤ 40 from ⟨by decide, by decide⟩), hP.sub [0, 1, 2, 3, 4, 5, 6] rfl, rfl, rfl, lv_sub hl [0, 1, 2, 3, 4] rfl⟩
  intro xx H locs ls hI ih5
  obtain ⟨i_1, y_2⟩ := xx
  obtain ⟨h_3, hP, rfl, rfl, hl⟩ := hI
  have h_3 : 0 ≤ i_1.toInt ∧ i_1.toInt ≤ 40 := h_3
  obtain ⟨h_3a, h_3b⟩ := h_3
  have hP : va_P D vwCl [((mo 0), .inr (1, [.ref (mo 1), .int ms])), ((mo 1), .inl (k 0, 10, .inl of)), ((w 0), .inr (5, [.int (y 0), .int (y 1), .int (y 2), .int (y 3), .int (y 4), .int (y 5), .int (y 6), .int (y 7), .int (y 8), .int (y 9), .int (y 10), .ref (w 1), .ref (w 2), .ref (w 3), .ref (w 4), .ref (w 5)])), ((w 1), .inl (k 0, 10, .inl (g 1))), ((w 3), .inl (k 0, 60, .inl (g 3))), (o, .inr (2, [.int it, .int sz_, .ref q, .int so])), (q, .inl (k 1, 40, .inr (.inl lf)))] s.heap := hP
  have hl : lv_has ls 5 [(4, .int i_1), (3, .int y_2), (0, .ref (mo 0)), (1, .ref (w 0)), (2, .ref o)] := hl
  refine lv_iload hx hb dX2_wettedBy_5 (lv_at hl 0 rfl) ?_
  refine lv_aload_n hx hb dX2_wettedBy_7 rfl (lv_at hl 4 rfl) ?_
  refine va_get (D := D) (ci := 2) (v := .int sz_) (C := RX3) (T := TX3) (N := 4) hx hb hts inlX3 hown hK hP 5 rfl rfl 1 (by decide) (hts _ mw_999) (fun _ h9 => h9) rfl dX2_wettedBy_8 ?_
  refine lv_icmp_ge (tgt := 42) hx hb dX2_wettedBy_11 (by decide) (fun c_4 => ?_) (fun c_4 => ?_)
  · have c_4 : sz_.toInt ≤ i_1.toInt := ti_le c_4
    refine lv_iload_n hx hb dX2_wettedBy_42 rfl (lv_at hl 1 rfl) ?_
    exact W.iret (v := y_2) hx hb hr (fun t ht hW => ⟨y_2, rfl, trivial, ht⟩) (fun q h => by cases h) dX2_wettedBy_43
  · have c_4 : i_1.toInt < sz_.toInt := ti_nle c_4
    refine lv_aload_n hx hb dX2_wettedBy_14 rfl (lv_at hl 4 rfl) ?_
    refine va_get (D := D) (ci := 2) (v := .ref q) (C := RX3) (T := TX3) (N := 4) hx hb hts inlX3 hown hK hP 5 rfl rfl 2 (by decide) (hts _ mw_1000) (fun _ h9 => h9) rfl dX2_wettedBy_15 ?_
    refine lv_iload hx hb dX2_wettedBy_18 (lv_at hl 0 rfl) ?_
    refine va_lald hx hb hK hP 6 1 rfl rfl (vp_in_o (by omega) (by omega)) dX2_wettedBy_20 ?_
    refine lv_topl (fun z_5 ez_5 => ?_)
    refine lv_lconst (v := 0) hx hb dX2_wettedBy_21 (by decide) ?_
    refine W.lcmp hx hb dX2_wettedBy_22 ?_
    rcases lg3 z_5 0 with ⟨h_6, eh_6⟩ | ⟨h_6, eh_6⟩ | ⟨h_6, eh_6⟩
    · have h_6 : z_5.toInt < 0 := h_6
      refine lv_ni (v := (-1)) eh_6 ?_
      refine lv_if_eq (tgt := 36) hx hb dX2_wettedBy_23 (by decide) (fun c9 => absurd c9 (by decide)) (fun _ => ?_)
      refine lv_iload_n hx hb dX2_wettedBy_26 rfl (lv_at hl 1 rfl) ?_
      refine lv_aload_n hx hb dX2_wettedBy_27 rfl (lv_at hl 2 rfl) ?_
      refine lv_iload hx hb dX2_wettedBy_28 (lv_at hl 0 rfl) ?_
      refine lv_aload_n hx hb dX2_wettedBy_30 rfl (lv_at hl 3 rfl) ?_
      refine kV_i (q0 := 0) (As := [.int i_1, .ref (w 0)]) (rest := [.int y_2]) ⟨hx, hb, hml, hown, hts⟩ (s_E_wetIn l D k _ of ms _ y g i_1 (show ∀ j : Nat, 0 ≤ (of j).toInt ∧ (of j).toInt ≤ 9 from w_hof) (show 0 ≤ ms.toInt ∧ ms.toInt ≤ 10 from ⟨by omega, by omega⟩) (show 0 ≤ (y 0).toInt ∧ (y 0).toInt ≤ 10 from ⟨by omega, by omega⟩) (show 0 ≤ (y 2).toInt ∧ (y 2).toInt ≤ 6 from ⟨by omega, by omega⟩) (show 0 ≤ (y 6).toInt ∧ (y 6).toInt ≤ 1 from ⟨by omega, by omega⟩) (show ∀ j : Nat, 0 ≤ ((g 1) j).toInt ∧ ((g 1) j).toInt ≤ 6 from w_hd) (show 0 ≤ i_1.toInt ∧ i_1.toInt ≤ 39 from ⟨by omega, by omega⟩)) (gV mw_1001 mw_1002 mw_1003 mw_29 mw_1004) hd_yX2_wetIn rfl rfl ⟨Nat.le_of_ble_eq_true rfl, Nat.le_of_ble_eq_true rfl⟩ hK hN0 (hP.sub [0, 1, 2, 3, 4] rfl) rfl rfl rfl rfl hl.1 rfl (Nat.le_of_ble_eq_true rfl) dX2_wettedBy_31 ⟨Nat.le_of_ble_eq_true rfl, Nat.le_of_ble_eq_true rfl⟩ (fun r_7 hr_7 => ?_)
      refine lv_iadd hx hb dX2_wettedBy_34 ?_
      refine lv_topi (fun z_8 ez_8 => ?_)
      refine lv_istore_n (lv' := [(3, .int z_8), (4, .int i_1), (0, .ref (mo 0)), (1, .ref (w 0)), (2, .ref o)]) hx hb dX2_wettedBy_35 rfl hl (by decide) rfl (fun ls hl => ?_)
      obtain ⟨z_9, ez_9⟩ : ∃ y : Int32, y = i_1 + 1 := ⟨_, rfl⟩
      have tz_9 : z_9.toInt = i_1.toInt + 1 := by rw [ez_9]; exact ti_addc (by decide) (by omega) (by omega)
      refine lv_iinc (v := z_9) (lv' := [(4, .int z_9), (3, .int z_8), (0, .ref (mo 0)), (1, .ref (w 0)), (2, .ref o)]) hx hb dX2_wettedBy_36 hl (k := 1) rfl (ez_9.symm) (by decide) rfl (fun ls hl => ?_)
      refine lv_goto (tgt := 5) hx hb dX2_wettedBy_39 (by decide) ?_
      exact ih5 (z_9, z_8) _ _ ls (by show (40 - z_9.toInt).toNat < (40 - i_1.toInt).toNat; omega) ⟨(show 0 ≤ z_9.toInt ∧ z_9.toInt ≤ 40 from ⟨by omega, by omega⟩), hP.sub [0, 1, 2, 3, 4, 5, 6] rfl, rfl, rfl, lv_sub hl [0, 1, 2, 3, 4] rfl⟩
    · have h_6 : z_5.toInt = 0 := h_6
      refine lv_ni (v := 0) eh_6 ?_
      refine lv_if_eq (tgt := 36) hx hb dX2_wettedBy_23 (by decide) (fun _ => ?_) (fun c9 => absurd c9 (by decide))
      obtain ⟨z_10, ez_10⟩ : ∃ y : Int32, y = i_1 + 1 := ⟨_, rfl⟩
      have tz_10 : z_10.toInt = i_1.toInt + 1 := by rw [ez_10]; exact ti_addc (by decide) (by omega) (by omega)
      refine lv_iinc (v := z_10) (lv' := [(4, .int z_10), (3, .int y_2), (0, .ref (mo 0)), (1, .ref (w 0)), (2, .ref o)]) hx hb dX2_wettedBy_36 hl (k := 0) rfl (ez_10.symm) (by decide) rfl (fun ls hl => ?_)
      refine lv_goto (tgt := 5) hx hb dX2_wettedBy_39 (by decide) ?_
      exact ih5 (z_10, y_2) _ _ ls (by show (40 - z_10.toInt).toNat < (40 - i_1.toInt).toNat; omega) ⟨(show 0 ≤ z_10.toInt ∧ z_10.toInt ≤ 40 from ⟨by omega, by omega⟩), hP.sub [0, 1, 2, 3, 4, 5, 6] rfl, rfl, rfl, lv_sub hl [0, 1, 2, 3, 4] rfl⟩
    · have h_6 : z_5.toInt > 0 := h_6
      refine lv_ni (v := 1) eh_6 ?_
      refine lv_if_eq (tgt := 36) hx hb dX2_wettedBy_23 (by decide) (fun c9 => absurd c9 (by decide)) (fun _ => ?_)
      refine lv_iload_n hx hb dX2_wettedBy_26 rfl (lv_at hl 1 rfl) ?_
      refine lv_aload_n hx hb dX2_wettedBy_27 rfl (lv_at hl 2 rfl) ?_
      refine lv_iload hx hb dX2_wettedBy_28 (lv_at hl 0 rfl) ?_
      refine lv_aload_n hx hb dX2_wettedBy_30 rfl (lv_at hl 3 rfl) ?_
      refine kV_i (q0 := 0) (As := [.int i_1, .ref (w 0)]) (rest := [.int y_2]) ⟨hx, hb, hml, hown, hts⟩ (s_E_wetIn l D k _ of ms _ y g i_1 (show ∀ j : Nat, 0 ≤ (of j).toInt ∧ (of j).toInt ≤ 9 from w_hof) (show 0 ≤ ms.toInt ∧ ms.toInt ≤ 10 from ⟨by omega, by omega⟩) (show 0 ≤ (y 0).toInt ∧ (y 0).toInt ≤ 10 from ⟨by omega, by omega⟩) (show 0 ≤ (y 2).toInt ∧ (y 2).toInt ≤ 6 from ⟨by omega, by omega⟩) (show 0 ≤ (y 6).toInt ∧ (y 6).toInt ≤ 1 from ⟨by omega, by omega⟩) (show ∀ j : Nat, 0 ≤ ((g 1) j).toInt ∧ ((g 1) j).toInt ≤ 6 from w_hd) (show 0 ≤ i_1.toInt ∧ i_1.toInt ≤ 39 from ⟨by omega, by omega⟩)) (gV mw_1001 mw_1002 mw_1003 mw_29 mw_1004) hd_yX2_wetIn rfl rfl ⟨Nat.le_of_ble_eq_true rfl, Nat.le_of_ble_eq_true rfl⟩ hK hN0 (hP.sub [0, 1, 2, 3, 4] rfl) rfl rfl rfl rfl hl.1 rfl (Nat.le_of_ble_eq_true rfl) dX2_wettedBy_31 ⟨Nat.le_of_ble_eq_true rfl, Nat.le_of_ble_eq_true rfl⟩ (fun r_11 hr_11 => ?_)
      refine lv_iadd hx hb dX2_wettedBy_34 ?_
      refine lv_topi (fun z_12 ez_12 => ?_)
      refine lv_istore_n (lv' := [(3, .int z_12), (4, .int i_1), (0, .ref (mo 0)), (1, .ref (w 0)), (2, .ref o)]) hx hb dX2_wettedBy_35 rfl hl (by decide) rfl (fun ls hl => ?_)
      obtain ⟨z_13, ez_13⟩ : ∃ y : Int32, y = i_1 + 1 := ⟨_, rfl⟩
      have tz_13 : z_13.toInt = i_1.toInt + 1 := by rw [ez_13]; exact ti_addc (by decide) (by omega) (by omega)
      refine lv_iinc (v := z_13) (lv' := [(4, .int z_13), (3, .int z_12), (0, .ref (mo 0)), (1, .ref (w 0)), (2, .ref o)]) hx hb dX2_wettedBy_36 hl (k := 1) rfl (ez_13.symm) (by decide) rfl (fun ls hl => ?_)
      refine lv_goto (tgt := 5) hx hb dX2_wettedBy_39 (by decide) ?_
      exact ih5 (z_13, z_12) _ _ ls (by show (40 - z_13.toInt).toNat < (40 - i_1.toInt).toNat; omega) ⟨(show 0 ≤ z_13.toInt ∧ z_13.toInt ≤ 40 from ⟨by omega, by omega⟩), hP.sub [0, 1, 2, 3, 4, 5, 6] rfl, rfl, rfl, lv_sub hl [0, 1, 2, 3, 4] rfl⟩
