theorem dX6_isLeaking_0 : decode cX6_isLeaking 0 = .ok (.aload_n 0, 1) := by decide +kernel
theorem dX6_isLeaking_1 : decode cX6_isLeaking 1 = .ok (.getfield 50, 3) := by decide +kernel
theorem dX6_isLeaking_4 : decode cX6_isLeaking 4 = .ok (.iload_n 1, 1) := by decide +kernel
theorem dX6_isLeaking_5 : decode cX6_isLeaking 5 = .ok (.invokestatic 97, 3) := by decide +kernel
theorem hd_yX7_bit : HD yX7_bit RX7 2 := by decide +kernel
theorem mw_370 : Cond.code yX7_bit cX7_bit 2 (some .int) ∈ wsL_law := List.mem_of_getElem? (i := 370) (by decide +kernel)
theorem mw_2 : Cond.initialized RX7 ∈ wsL_law := List.mem_of_getElem? (i := 2) (by decide +kernel)
theorem mw_369 : Cond.static yX7_bit ∈ wsL_law := List.mem_of_getElem? (i := 369) (by decide +kernel)
theorem dX6_isLeaking_8 : decode cX6_isLeaking 8 = .ok (.ifCond .ne 15, 3) := by decide +kernel
theorem dX6_isLeaking_23 : decode cX6_isLeaking 23 = .ok (.iconst 0, 1) := by decide +kernel
theorem dX6_isLeaking_24 : decode cX6_isLeaking 24 = .ok (.ireturn, 1) := by decide +kernel
theorem dX6_isLeaking_11 : decode cX6_isLeaking 11 = .ok (.aload_n 0, 1) := by decide +kernel
theorem dX6_isLeaking_12 : decode cX6_isLeaking 12 = .ok (.iload_n 1, 1) := by decide +kernel
theorem dX6_isLeaking_13 : decode cX6_isLeaking 13 = .ok (.invokevirtual 100, 3) := by decide +kernel
theorem hd_yX6_soundIn : HD yX6_soundIn RX6 1 := by decide +kernel
theorem mw_379 : Cond.methodLink RX6 100 yX6_soundIn ∈ wsL_law := List.mem_of_getElem? (i := 379) (by decide +kernel)
theorem mw_380 : Cond.instanceMethod yX6_soundIn ∈ wsL_law := List.mem_of_getElem? (i := 380) (by decide +kernel)
theorem mw_381 : Cond.selects RX6 yX6_soundIn yX6_soundIn ∈ wsL_law := List.mem_of_getElem? (i := 381) (by decide +kernel)
theorem mw_382 : Cond.code yX6_soundIn cX6_soundIn 4 (some .int) ∈ wsL_law := List.mem_of_getElem? (i := 382) (by decide +kernel)
theorem dX6_isLeaking_16 : decode cX6_isLeaking 16 = .ok (.ifCond .ne 7, 3) := by decide +kernel
theorem dX6_isLeaking_19 : decode cX6_isLeaking 19 = .ok (.iconst 1, 1) := by decide +kernel
theorem dX6_isLeaking_20 : decode cX6_isLeaking 20 = .ok (.goto 4, 3) := by decide +kernel
theorem dX6_leaking_0 : decode cX6_leaking 0 = .ok (.iconst 0, 1) := by decide +kernel
theorem dX6_leaking_1 : decode cX6_leaking 1 = .ok (.istore_n 1, 1) := by decide +kernel
theorem dX6_leaking_2 : decode cX6_leaking 2 = .ok (.iconst 0, 1) := by decide +kernel
theorem dX6_leaking_3 : decode cX6_leaking 3 = .ok (.istore_n 2, 1) := by decide +kernel
theorem dX6_leaking_4 : decode cX6_leaking 4 = .ok (.iload_n 2, 1) := by decide +kernel
theorem dX6_leaking_5 : decode cX6_leaking 5 = .ok (.aload_n 0, 1) := by decide +kernel
theorem dX6_leaking_6 : decode cX6_leaking 6 = .ok (.getfield 40, 3) := by decide +kernel
theorem dX6_leaking_9 : decode cX6_leaking 9 = .ok (.if_icmp .ge 48, 3) := by decide +kernel
theorem dX6_leaking_57 : decode cX6_leaking 57 = .ok (.iload_n 1, 1) := by decide +kernel
theorem dX6_leaking_58 : decode cX6_leaking 58 = .ok (.ireturn, 1) := by decide +kernel
theorem dX6_leaking_12 : decode cX6_leaking 12 = .ok (.aload_n 0, 1) := by decide +kernel
theorem dX6_leaking_13 : decode cX6_leaking 13 = .ok (.getfield 50, 3) := by decide +kernel
theorem dX6_leaking_16 : decode cX6_leaking 16 = .ok (.iload_n 2, 1) := by decide +kernel
theorem dX6_leaking_17 : decode cX6_leaking 17 = .ok (.invokestatic 97, 3) := by decide +kernel
theorem dX6_leaking_20 : decode cX6_leaking 20 = .ok (.ifCond .ne 15, 3) := by decide +kernel
theorem dX6_leaking_35 : decode cX6_leaking 35 = .ok (.iconst 0, 1) := by decide +kernel
theorem dX6_leaking_36 : decode cX6_leaking 36 = .ok (.istore_n 3, 1) := by decide +kernel
theorem dX6_leaking_37 : decode cX6_leaking 37 = .ok (.iload_n 1, 1) := by decide +kernel
theorem dX6_leaking_38 : decode cX6_leaking 38 = .ok (.iload_n 3, 1) := by decide +kernel
theorem dX6_leaking_39 : decode cX6_leaking 39 = .ok (.ifCond .eq 9, 3) := by decide +kernel
theorem dX6_leaking_48 : decode cX6_leaking 48 = .ok (.iconst 0, 1) := by decide +kernel
theorem dX6_leaking_49 : decode cX6_leaking 49 = .ok (.ior, 1) := by decide +kernel
theorem dX6_leaking_50 : decode cX6_leaking 50 = .ok (.istore_n 1, 1) := by decide +kernel
theorem dX6_leaking_51 : decode cX6_leaking 51 = .ok (.iinc 2 1, 3) := by decide +kernel
theorem dX6_leaking_54 : decode cX6_leaking 54 = .ok (.goto (-50), 3) := by decide +kernel
theorem dX6_leaking_23 : decode cX6_leaking 23 = .ok (.aload_n 0, 1) := by decide +kernel
theorem dX6_leaking_24 : decode cX6_leaking 24 = .ok (.iload_n 2, 1) := by decide +kernel
theorem dX6_leaking_25 : decode cX6_leaking 25 = .ok (.invokevirtual 100, 3) := by decide +kernel
theorem dX6_leaking_28 : decode cX6_leaking 28 = .ok (.ifCond .ne 7, 3) := by decide +kernel
theorem dX6_leaking_31 : decode cX6_leaking 31 = .ok (.iconst 1, 1) := by decide +kernel
theorem dX6_leaking_32 : decode cX6_leaking 32 = .ok (.goto 4, 3) := by decide +kernel
theorem dX6_leaking_42 : decode cX6_leaking 42 = .ok (.iconst 1, 1) := by decide +kernel
theorem dX6_leaking_43 : decode cX6_leaking 43 = .ok (.iload_n 2, 1) := by decide +kernel
theorem dX6_leaking_44 : decode cX6_leaking 44 = .ok (.ishl, 1) := by decide +kernel
theorem dX6_leaking_45 : decode cX6_leaking 45 = .ok (.goto 4, 3) := by decide +kernel
theorem dX6_yearFault_0 : decode cX6_yearFault 0 = .ok (.lload_n 1, 1) := by decide +kernel
theorem dX6_yearFault_1 : decode cX6_yearFault 1 = .ok (.aload_n 0, 1) := by decide +kernel
theorem dX6_yearFault_2 : decode cX6_yearFault 2 = .ok (.invokevirtual 68, 3) := by decide +kernel
theorem dX6_yearFault_5 : decode cX6_yearFault 5 = .ok (.i2l, 1) := by decide +kernel
theorem dX6_yearFault_6 : decode cX6_yearFault 6 = .ok (.ldc2_w 118, 3) := by decide +kernel
theorem mw_473 : Cond.constantLong RX6 118 (-1) ∈ wsL_law := List.mem_of_getElem? (i := 473) (by decide +kernel)
theorem dX6_yearFault_9 : decode cX6_yearFault 9 = .ok (.lxor, 1) := by decide +kernel
theorem dX6_yearFault_10 : decode cX6_yearFault 10 = .ok (.land, 1) := by decide +kernel
theorem dX6_yearFault_11 : decode cX6_yearFault 11 = .ok (.lconst 0, 1) := by decide +kernel
theorem dX6_yearFault_12 : decode cX6_yearFault 12 = .ok (.lcmp, 1) := by decide +kernel
theorem dX6_yearFault_13 : decode cX6_yearFault 13 = .ok (.ifCond .eq 5, 3) := by decide +kernel
theorem dX6_yearFault_16 : decode cX6_yearFault 16 = .ok (.iconst 1, 1) := by decide +kernel
theorem dX6_yearFault_17 : decode cX6_yearFault 17 = .ok (.ireturn, 1) := by decide +kernel
theorem dX6_yearFault_18 : decode cX6_yearFault 18 = .ok (.lload_n 1, 1) := by decide +kernel
theorem dX6_yearFault_19 : decode cX6_yearFault 19 = .ok (.aload_n 0, 1) := by decide +kernel
theorem dX6_yearFault_20 : decode cX6_yearFault 20 = .ok (.getfield 50, 3) := by decide +kernel
theorem dX6_yearFault_23 : decode cX6_yearFault 23 = .ok (.i2l, 1) := by decide +kernel
theorem dX6_yearFault_24 : decode cX6_yearFault 24 = .ok (.land, 1) := by decide +kernel
theorem dX6_yearFault_25 : decode cX6_yearFault 25 = .ok (.lconst 0, 1) := by decide +kernel
theorem dX6_yearFault_26 : decode cX6_yearFault 26 = .ok (.lcmp, 1) := by decide +kernel
theorem dX6_yearFault_27 : decode cX6_yearFault 27 = .ok (.ifCond .eq 5, 3) := by decide +kernel
theorem dX6_yearFault_30 : decode cX6_yearFault 30 = .ok (.iconst 2, 1) := by decide +kernel
theorem dX6_yearFault_31 : decode cX6_yearFault 31 = .ok (.ireturn, 1) := by decide +kernel
theorem dX6_yearFault_32 : decode cX6_yearFault 32 = .ok (.aload_n 0, 1) := by decide +kernel
theorem dX6_yearFault_33 : decode cX6_yearFault 33 = .ok (.getfield 43, 3) := by decide +kernel
theorem mw_153 : Cond.fieldLink RX6 43 "ThatchNext$World" "year" "I" ∈ wsL_law := List.mem_of_getElem? (i := 153) (by decide +kernel)
theorem dX6_yearFault_36 : decode cX6_yearFault 36 = .ok (.sipush 999, 3) := by decide +kernel
theorem dX6_yearFault_39 : decode cX6_yearFault 39 = .ok (.if_icmp .lt 7, 3) := by decide +kernel
theorem dX6_yearFault_46 : decode cX6_yearFault 46 = .ok (.iconst 0, 1) := by decide +kernel
theorem dX6_yearFault_47 : decode cX6_yearFault 47 = .ok (.ireturn, 1) := by decide +kernel
theorem dX6_yearFault_42 : decode cX6_yearFault 42 = .ok (.iconst 3, 1) := by decide +kernel
theorem dX6_yearFault_43 : decode cX6_yearFault 43 = .ok (.goto 4, 3) := by decide +kernel
theorem dX6_maySkip_0 : decode cX6_maySkip 0 = .ok (.aload_n 0, 1) := by decide +kernel
theorem dX6_maySkip_1 : decode cX6_maySkip 1 = .ok (.iload_n 1, 1) := by decide +kernel
theorem dX6_maySkip_2 : decode cX6_maySkip 2 = .ok (.i2l, 1) := by decide +kernel
theorem dX6_maySkip_3 : decode cX6_maySkip 3 = .ok (.invokevirtual 120, 3) := by decide +kernel
theorem hd_yX6_yearFault : HD yX6_yearFault RX6 1 := by decide +kernel
theorem mw_469 : Cond.methodLink RX6 120 yX6_yearFault ∈ wsL_law := List.mem_of_getElem? (i := 469) (by decide +kernel)
theorem mw_470 : Cond.instanceMethod yX6_yearFault ∈ wsL_law := List.mem_of_getElem? (i := 470) (by decide +kernel)
theorem mw_471 : Cond.selects RX6 yX6_yearFault yX6_yearFault ∈ wsL_law := List.mem_of_getElem? (i := 471) (by decide +kernel)
theorem mw_472 : Cond.code yX6_yearFault cX6_yearFault 3 (some .int) ∈ wsL_law := List.mem_of_getElem? (i := 472) (by decide +kernel)
theorem dX6_maySkip_6 : decode cX6_maySkip 6 = .ok (.istore_n 2, 1) := by decide +kernel
theorem dX6_maySkip_7 : decode cX6_maySkip 7 = .ok (.iload_n 2, 1) := by decide +kernel
theorem dX6_maySkip_8 : decode cX6_maySkip 8 = .ok (.iconst 1, 1) := by decide +kernel
theorem dX6_maySkip_9 : decode cX6_maySkip 9 = .ok (.if_icmp .eq 12, 3) := by decide +kernel
theorem dX6_maySkip_21 : decode cX6_maySkip 21 = .ok (.iconst 0, 1) := by decide +kernel
theorem dX6_maySkip_22 : decode cX6_maySkip 22 = .ok (.ireturn, 1) := by decide +kernel
theorem dX6_maySkip_12 : decode cX6_maySkip 12 = .ok (.iload_n 2, 1) := by decide +kernel
theorem dX6_maySkip_13 : decode cX6_maySkip 13 = .ok (.iconst 2, 1) := by decide +kernel
theorem dX6_maySkip_14 : decode cX6_maySkip 14 = .ok (.if_icmp .eq 7, 3) := by decide +kernel
theorem dX6_maySkip_17 : decode cX6_maySkip 17 = .ok (.iconst 1, 1) := by decide +kernel
theorem dX6_maySkip_18 : decode cX6_maySkip 18 = .ok (.goto 4, 3) := by decide +kernel
theorem dX6_sourceFor_0 : decode cX6_sourceFor 0 = .ok (.aload_n 0, 1) := by decide +kernel
theorem dX6_sourceFor_1 : decode cX6_sourceFor 1 = .ok (.iload_n 1, 1) := by decide +kernel
theorem dX6_sourceFor_2 : decode cX6_sourceFor 2 = .ok (.invokevirtual 148, 3) := by decide +kernel
theorem hd_yX6_giverOf : HD yX6_giverOf RX6 1 := by decide +kernel
theorem mw_505 : Cond.methodLink RX6 148 yX6_giverOf ∈ wsL_law := List.mem_of_getElem? (i := 505) (by decide +kernel)
theorem mw_372 : Cond.instanceMethod yX6_giverOf ∈ wsL_law := List.mem_of_getElem? (i := 372) (by decide +kernel)
theorem mw_373 : Cond.selects RX6 yX6_giverOf yX6_giverOf ∈ wsL_law := List.mem_of_getElem? (i := 373) (by decide +kernel)
theorem mw_374 : Cond.code yX6_giverOf cX6_giverOf 2 (some .int) ∈ wsL_law := List.mem_of_getElem? (i := 374) (by decide +kernel)
theorem dX6_sourceFor_5 : decode cX6_sourceFor 5 = .ok (.istore_n 3, 1) := by decide +kernel
theorem dX6_sourceFor_6 : decode cX6_sourceFor 6 = .ok (.iload_n 3, 1) := by decide +kernel
theorem dX6_sourceFor_7 : decode cX6_sourceFor 7 = .ok (.iconst (-1), 1) := by decide +kernel
theorem dX6_sourceFor_8 : decode cX6_sourceFor 8 = .ok (.if_icmp .eq 15, 3) := by decide +kernel
theorem dX6_sourceFor_23 : decode cX6_sourceFor 23 = .ok (.iconst (-1), 1) := by decide +kernel
theorem dX6_sourceFor_24 : decode cX6_sourceFor 24 = .ok (.ireturn, 1) := by decide +kernel
theorem dX6_sourceFor_11 : decode cX6_sourceFor 11 = .ok (.aload_n 0, 1) := by decide +kernel
theorem dX6_sourceFor_12 : decode cX6_sourceFor 12 = .ok (.getfield 50, 3) := by decide +kernel
theorem dX6_sourceFor_15 : decode cX6_sourceFor 15 = .ok (.iload_n 3, 1) := by decide +kernel
theorem dX6_sourceFor_16 : decode cX6_sourceFor 16 = .ok (.invokestatic 97, 3) := by decide +kernel
theorem dX6_sourceFor_19 : decode cX6_sourceFor 19 = .ok (.iconst 1, 1) := by decide +kernel
theorem dX6_sourceFor_20 : decode cX6_sourceFor 20 = .ok (.if_icmp .ne 5, 3) := by decide +kernel
theorem dX6_sourceFor_25 : decode cX6_sourceFor 25 = .ok (.iload_n 2, 1) := by decide +kernel
theorem dX6_sourceFor_26 : decode cX6_sourceFor 26 = .ok (.iload_n 3, 1) := by decide +kernel
theorem dX6_sourceFor_27 : decode cX6_sourceFor 27 = .ok (.invokestatic 97, 3) := by decide +kernel
theorem dX6_sourceFor_30 : decode cX6_sourceFor 30 = .ok (.iconst 1, 1) := by decide +kernel
theorem dX6_sourceFor_31 : decode cX6_sourceFor 31 = .ok (.if_icmp .ne 7, 3) := by decide +kernel
theorem dX6_sourceFor_38 : decode cX6_sourceFor 38 = .ok (.iload_n 3, 1) := by decide +kernel
theorem dX6_sourceFor_39 : decode cX6_sourceFor 39 = .ok (.ireturn, 1) := by decide +kernel
theorem dX6_sourceFor_34 : decode cX6_sourceFor 34 = .ok (.iload_n 1, 1) := by decide +kernel
theorem dX6_sourceFor_35 : decode cX6_sourceFor 35 = .ok (.goto 4, 3) := by decide +kernel
theorem dX6_placeNextYear_0 : decode cX6_placeNextYear 0 = .ok (.aload_n 0, 1) := by decide +kernel
theorem dX6_placeNextYear_1 : decode cX6_placeNextYear 1 = .ok (.iload_n 1, 1) := by decide +kernel
theorem dX6_placeNextYear_2 : decode cX6_placeNextYear 2 = .ok (.bipush 10, 2) := by decide +kernel
theorem dX6_placeNextYear_4 : decode cX6_placeNextYear 4 = .ok (.idiv, 1) := by decide +kernel
theorem dX6_placeNextYear_5 : decode cX6_placeNextYear 5 = .ok (.invokevirtual 175, 3) := by decide +kernel
theorem hd_yX6_takerOf : HD yX6_takerOf RX6 1 := by decide +kernel
theorem mw_867 : Cond.methodLink RX6 175 yX6_takerOf ∈ wsL_law := List.mem_of_getElem? (i := 867) (by decide +kernel)
theorem mw_868 : Cond.instanceMethod yX6_takerOf ∈ wsL_law := List.mem_of_getElem? (i := 868) (by decide +kernel)
theorem mw_869 : Cond.selects RX6 yX6_takerOf yX6_takerOf ∈ wsL_law := List.mem_of_getElem? (i := 869) (by decide +kernel)
theorem mw_870 : Cond.code yX6_takerOf cX6_takerOf 2 (some .int) ∈ wsL_law := List.mem_of_getElem? (i := 870) (by decide +kernel)
theorem dX6_placeNextYear_8 : decode cX6_placeNextYear 8 = .ok (.istore_n 2, 1) := by decide +kernel
theorem dX6_placeNextYear_9 : decode cX6_placeNextYear 9 = .ok (.iload_n 1, 1) := by decide +kernel
theorem dX6_placeNextYear_10 : decode cX6_placeNextYear 10 = .ok (.bipush 10, 2) := by decide +kernel
theorem dX6_placeNextYear_12 : decode cX6_placeNextYear 12 = .ok (.irem, 1) := by decide +kernel
theorem dX6_placeNextYear_13 : decode cX6_placeNextYear 13 = .ok (.iconst 1, 1) := by decide +kernel
theorem dX6_placeNextYear_14 : decode cX6_placeNextYear 14 = .ok (.iadd, 1) := by decide +kernel
theorem dX6_placeNextYear_15 : decode cX6_placeNextYear 15 = .ok (.istore_n 3, 1) := by decide +kernel
theorem dX6_placeNextYear_16 : decode cX6_placeNextYear 16 = .ok (.iload_n 2, 1) := by decide +kernel
theorem dX6_placeNextYear_17 : decode cX6_placeNextYear 17 = .ok (.iconst (-1), 1) := by decide +kernel
theorem dX6_placeNextYear_18 : decode cX6_placeNextYear 18 = .ok (.if_icmp .eq 23, 3) := by decide +kernel
theorem dX6_placeNextYear_41 : decode cX6_placeNextYear 41 = .ok (.iconst (-1), 1) := by decide +kernel
theorem dX6_placeNextYear_42 : decode cX6_placeNextYear 42 = .ok (.ireturn, 1) := by decide +kernel
theorem dX6_placeNextYear_21 : decode cX6_placeNextYear 21 = .ok (.aload_n 0, 1) := by decide +kernel
theorem dX6_placeNextYear_22 : decode cX6_placeNextYear 22 = .ok (.getfield 50, 3) := by decide +kernel
theorem dX6_placeNextYear_25 : decode cX6_placeNextYear 25 = .ok (.iload_n 2, 1) := by decide +kernel
theorem dX6_placeNextYear_26 : decode cX6_placeNextYear 26 = .ok (.invokestatic 97, 3) := by decide +kernel
theorem dX6_placeNextYear_29 : decode cX6_placeNextYear 29 = .ok (.iconst 1, 1) := by decide +kernel
theorem dX6_placeNextYear_30 : decode cX6_placeNextYear 30 = .ok (.if_icmp .eq 11, 3) := by decide +kernel
theorem dX6_placeNextYear_33 : decode cX6_placeNextYear 33 = .ok (.iload_n 3, 1) := by decide +kernel
theorem dX6_placeNextYear_34 : decode cX6_placeNextYear 34 = .ok (.aload_n 0, 1) := by decide +kernel
theorem dX6_placeNextYear_35 : decode cX6_placeNextYear 35 = .ok (.getfield 9, 3) := by decide +kernel
theorem mw_54 : Cond.fieldLink RX6 9 "ThatchNext$World" "deep" "I" ∈ wsL_law := List.mem_of_getElem? (i := 54) (by decide +kernel)
theorem dX6_placeNextYear_38 : decode cX6_placeNextYear 38 = .ok (.if_icmp .lt 5, 3) := by decide +kernel
theorem dX6_placeNextYear_43 : decode cX6_placeNextYear 43 = .ok (.bipush 10, 2) := by decide +kernel
theorem dX6_placeNextYear_45 : decode cX6_placeNextYear 45 = .ok (.iload_n 2, 1) := by decide +kernel
theorem dX6_placeNextYear_46 : decode cX6_placeNextYear 46 = .ok (.imul, 1) := by decide +kernel
theorem dX6_placeNextYear_47 : decode cX6_placeNextYear 47 = .ok (.iload_n 3, 1) := by decide +kernel
theorem dX6_placeNextYear_48 : decode cX6_placeNextYear 48 = .ok (.iadd, 1) := by decide +kernel
theorem dX6_placeNextYear_49 : decode cX6_placeNextYear 49 = .ok (.ireturn, 1) := by decide +kernel
theorem dX6_roofsVisited_0 : decode cX6_roofsVisited 0 = .ok (.bipush 10, 2) := by decide +kernel
theorem dX6_roofsVisited_2 : decode cX6_roofsVisited 2 = .ok (.iload_n 1, 1) := by decide +kernel
theorem dX6_roofsVisited_3 : decode cX6_roofsVisited 3 = .ok (.imul, 1) := by decide +kernel
theorem dX6_roofsVisited_4 : decode cX6_roofsVisited 4 = .ok (.iload_n 2, 1) := by decide +kernel
theorem dX6_roofsVisited_5 : decode cX6_roofsVisited 5 = .ok (.iadd, 1) := by decide +kernel
theorem dX6_roofsVisited_6 : decode cX6_roofsVisited 6 = .ok (.istore 4, 2) := by decide +kernel
theorem dX6_roofsVisited_8 : decode cX6_roofsVisited 8 = .ok (.iconst 0, 1) := by decide +kernel
theorem dX6_roofsVisited_9 : decode cX6_roofsVisited 9 = .ok (.istore 5, 2) := by decide +kernel
theorem dX6_roofsVisited_11 : decode cX6_roofsVisited 11 = .ok (.iconst 0, 1) := by decide +kernel
theorem dX6_roofsVisited_12 : decode cX6_roofsVisited 12 = .ok (.istore 6, 2) := by decide +kernel
theorem dX6_roofsVisited_14 : decode cX6_roofsVisited 14 = .ok (.iload 6, 2) := by decide +kernel
theorem dX6_roofsVisited_16 : decode cX6_roofsVisited 16 = .ok (.iload_n 3, 1) := by decide +kernel
theorem dX6_roofsVisited_17 : decode cX6_roofsVisited 17 = .ok (.if_icmp .ge 37, 3) := by decide +kernel
theorem dX6_roofsVisited_54 : decode cX6_roofsVisited 54 = .ok (.iload 5, 2) := by decide +kernel
theorem dX6_roofsVisited_56 : decode cX6_roofsVisited 56 = .ok (.ireturn, 1) := by decide +kernel
theorem dX6_roofsVisited_20 : decode cX6_roofsVisited 20 = .ok (.aload_n 0, 1) := by decide +kernel
theorem dX6_roofsVisited_21 : decode cX6_roofsVisited 21 = .ok (.iload 4, 2) := by decide +kernel
theorem dX6_roofsVisited_23 : decode cX6_roofsVisited 23 = .ok (.invokevirtual 178, 3) := by decide +kernel
theorem hd_yX6_placeNextYear : HD yX6_placeNextYear RX6 1 := by decide +kernel
theorem mw_863 : Cond.methodLink RX6 178 yX6_placeNextYear ∈ wsL_law := List.mem_of_getElem? (i := 863) (by decide +kernel)
theorem mw_864 : Cond.instanceMethod yX6_placeNextYear ∈ wsL_law := List.mem_of_getElem? (i := 864) (by decide +kernel)
theorem mw_865 : Cond.selects RX6 yX6_placeNextYear yX6_placeNextYear ∈ wsL_law := List.mem_of_getElem? (i := 865) (by decide +kernel)
theorem mw_866 : Cond.code yX6_placeNextYear cX6_placeNextYear 4 (some .int) ∈ wsL_law := List.mem_of_getElem? (i := 866) (by decide +kernel)
theorem dX6_roofsVisited_26 : decode cX6_roofsVisited 26 = .ok (.istore 4, 2) := by decide +kernel
theorem dX6_roofsVisited_28 : decode cX6_roofsVisited 28 = .ok (.iload 4, 2) := by decide +kernel
theorem dX6_roofsVisited_30 : decode cX6_roofsVisited 30 = .ok (.iconst (-1), 1) := by decide +kernel
theorem dX6_roofsVisited_31 : decode cX6_roofsVisited 31 = .ok (.if_icmp .ne 5, 3) := by decide +kernel
theorem dX6_roofsVisited_36 : decode cX6_roofsVisited 36 = .ok (.iload 5, 2) := by decide +kernel
theorem dX6_roofsVisited_38 : decode cX6_roofsVisited 38 = .ok (.iconst 1, 1) := by decide +kernel
theorem dX6_roofsVisited_39 : decode cX6_roofsVisited 39 = .ok (.iload 4, 2) := by decide +kernel
theorem dX6_roofsVisited_41 : decode cX6_roofsVisited 41 = .ok (.bipush 10, 2) := by decide +kernel
theorem dX6_roofsVisited_43 : decode cX6_roofsVisited 43 = .ok (.idiv, 1) := by decide +kernel
theorem dX6_roofsVisited_44 : decode cX6_roofsVisited 44 = .ok (.ishl, 1) := by decide +kernel
theorem dX6_roofsVisited_45 : decode cX6_roofsVisited 45 = .ok (.ior, 1) := by decide +kernel
theorem dX6_roofsVisited_46 : decode cX6_roofsVisited 46 = .ok (.istore 5, 2) := by decide +kernel
theorem dX6_roofsVisited_48 : decode cX6_roofsVisited 48 = .ok (.iinc 6 1, 3) := by decide +kernel
theorem dX6_roofsVisited_51 : decode cX6_roofsVisited 51 = .ok (.goto (-37), 3) := by decide +kernel
theorem dX6_roofsVisited_34 : decode cX6_roofsVisited 34 = .ok (.iconst 0, 1) := by decide +kernel
theorem dX6_roofsVisited_35 : decode cX6_roofsVisited 35 = .ok (.ireturn, 1) := by decide +kernel
set_option maxHeartbeats 4000000 in
set_option maxRecDepth 100000 in
theorem s_W_isLeaking (l : Launch) (D : va_G) (k : Nat → ClassId) (w : Nat → Nat) (y : Nat → Int32) (g : Nat → Nat → Int32) (r : Int32) (w_h0 : 0 ≤ (y 0).toInt ∧ (y 0).toInt ≤ 10) (w_h2 : 0 ≤ (y 2).toInt ∧ (y 2).toInt ≤ 6) (w_h6 : 0 ≤ (y 6).toInt ∧ (y 6).toInt ≤ 1) (w_hd : ∀ j : Nat, 0 ≤ ((g 1) j).toInt ∧ ((g 1) j).toInt ≤ 6) (w_hr : 0 ≤ r.toInt ∧ r.toInt ≤ 9) : Met l yX6_isLeaking (Cond.code yX6_isLeaking cX6_isLeaking 2 (some .boolean) :: wsL_law) ({ frames := 3, cells := 0, slots := 0, locals := 180 } : Room) (va_Pc [.ref (w 0), .int r] (pr D k [((w 0), .inr (5, [.int (y 0), .int (y 1), .int (y 2), .int (y 3), .int (y 4), .int (y 5), .int (y 6), .int (y 7), .int (y 8), .int (y 9), .int (y 10), .ref (w 1), .ref (w 2), .ref (w 3), .ref (w 4), .ref (w 5)])), ((w 1), .inl (k 0, 10, .inl (g 1))), ((w 3), .inl (k 0, 60, .inl (g 3)))])) (vp_Si (fun rr => 0 ≤ rr.toInt ∧ rr.toInt ≤ 1)) 0 0 (fun _ => False) := by
  refine Met.ofW (cc := cX6_isLeaking) (maxL := 2) (ret := (some .boolean)) (by decide) rfl ?_
  intro p e s m args below meth c s₁ B hml hv
  obtain ⟨rfl, hP, hK, hN0⟩ := hv
  have hx := B.exec
  have hb := B.bytes
  have hr := B.returns
  have hts : ∀ w ∈ wsL_law, w.before _ s = true := fun w h => atoms_spec (ws := Cond.code yX6_isLeaking cX6_isLeaking 2 (some .boolean) :: wsL_law) B.pre w (List.mem_cons_of_mem _ h)
  have hown : s.vm.findClass RX6 = some m.cls := findClass_of_methodNamed B.named
  have hlocks := B.notSynchronized
  have hP : va_P D vwCl [((w 0), .inr (5, [.int (y 0), .int (y 1), .int (y 2), .int (y 3), .int (y 4), .int (y 5), .int (y 6), .int (y 7), .int (y 8), .int (y 9), .int (y 10), .ref (w 1), .ref (w 2), .ref (w 3), .ref (w 4), .ref (w 5)])), ((w 1), .inl (k 0, 10, .inl (g 1))), ((w 3), .inl (k 0, 60, .inl (g 3)))] s.heap := hP
  have hl := lv_entry ([.ref (w 0), .int r]) (n := 2) (Nat.le_of_ble_eq_true rfl)
  rw [lg_entry_eq]
  generalize (lg_sl ([.ref (w 0), .int r]) ++ List.replicate (2 - (lg_sl ([.ref (w 0), .int r])).length) Slot.unset).toArray = ls at hl ⊢
  have hl : lv_has ls 2 [(0, .ref (w 0)), (1, .int r)] := hl
  refine lv_aload_n hx hb dX6_isLeaking_0 rfl (lv_at hl 0 rfl) ?_
  refine va_get (D := D) (ci := 5) (v := .int (y 7)) (C := RX6) (T := TX6) (N := 16) hx hb hts inlX6 hown hK hP 0 rfl rfl 7 (by decide) (hts _ mw_155) (fun _ h9 => h9) rfl dX6_isLeaking_1 ?_
  refine lv_iload_n hx hb dX6_isLeaking_4 rfl (lv_at hl 1 rfl) ?_
  refine kSN_i (As := [.int (y 7), .int r]) (rest := []) ⟨hx, hb, hml, hown, hts⟩ (s_T_bit l D k (y 7) r) mw_370 mw_2 mw_369 (host := "ThatchNext") (List.mem_of_getElem? (i := 9) rfl) hd_yX7_bit rfl rfl ⟨Nat.le_of_ble_eq_true rfl, Nat.le_of_ble_eq_true rfl⟩ hK hN0 (hP.sub [] rfl) rfl hl.1 rfl (Nat.le_of_ble_eq_true rfl) dX6_isLeaking_5 ⟨Nat.le_of_ble_eq_true rfl, Nat.le_of_ble_eq_true rfl⟩ (fun r_1 hr_1 => ?_)
  have hr_1 : 0 ≤ r_1.toInt ∧ r_1.toInt ≤ 1 := hr_1
  refine lv_if_ne (tgt := 23) hx hb dX6_isLeaking_8 (by decide) (fun c_2 => ?_) (fun c_2 => ?_)
  · have c_2 : r_1.toInt ≠ 0 := ti_ne c_2
    have qc_2 : r_1 = 1 := ti_of (show r_1.toInt = 1 from by omega)
    refine lv_iconst (v := 0) hx hb dX6_isLeaking_23 (by decide) ?_
    exact W.zret (v := 0) hx hb hr rfl (fun t ht hW => ⟨0, rfl, ⟨by decide, by decide⟩, ht⟩) (fun q h => by cases h) dX6_isLeaking_24
  · have c_2 : r_1.toInt = 0 := ti_eq c_2
    have qc_2 : r_1 = 0 := ti_of (show r_1.toInt = 0 from by omega)
    refine lv_aload_n hx hb dX6_isLeaking_11 rfl (lv_at hl 0 rfl) ?_
    refine lv_iload_n hx hb dX6_isLeaking_12 rfl (lv_at hl 1 rfl) ?_
    refine kV_i (q0 := 0) (As := [.int r]) (rest := []) ⟨hx, hb, hml, hown, hts⟩ (s_W_soundIn l D k _ y g r (show 0 ≤ (y 0).toInt ∧ (y 0).toInt ≤ 10 from ⟨by omega, by omega⟩) (show 0 ≤ (y 2).toInt ∧ (y 2).toInt ≤ 6 from ⟨by omega, by omega⟩) (show 0 ≤ (y 6).toInt ∧ (y 6).toInt ≤ 1 from ⟨by omega, by omega⟩) (show ∀ j : Nat, 0 ≤ ((g 1) j).toInt ∧ ((g 1) j).toInt ≤ 6 from w_hd) (show 0 ≤ r.toInt ∧ r.toInt ≤ 9 from ⟨by omega, by omega⟩)) (gV mw_379 mw_380 mw_381 mw_19 mw_382) hd_yX6_soundIn rfl rfl ⟨Nat.le_of_ble_eq_true rfl, Nat.le_of_ble_eq_true rfl⟩ hK hN0 (hP.sub [0, 1, 2] rfl) rfl rfl rfl rfl hl.1 rfl (Nat.le_of_ble_eq_true rfl) dX6_isLeaking_13 ⟨Nat.le_of_ble_eq_true rfl, Nat.le_of_ble_eq_true rfl⟩ (fun r_3 hr_3 => ?_)
    refine lv_if_ne (tgt := 23) hx hb dX6_isLeaking_16 (by decide) (fun c_4 => ?_) (fun c_4 => ?_)
    · have c_4 : r_3.toInt ≠ 0 := ti_ne c_4
      refine lv_iconst (v := 0) hx hb dX6_isLeaking_23 (by decide) ?_
      exact W.zret (v := 0) hx hb hr rfl (fun t ht hW => ⟨0, rfl, ⟨by decide, by decide⟩, ht⟩) (fun q h => by cases h) dX6_isLeaking_24
    · have c_4 : r_3.toInt = 0 := ti_eq c_4
      have qc_4 : r_3 = 0 := ti_of (show r_3.toInt = 0 from by omega)
      refine lv_iconst (v := 1) hx hb dX6_isLeaking_19 (by decide) ?_
      refine lv_goto (tgt := 24) hx hb dX6_isLeaking_20 (by decide) ?_
      exact W.zret (v := 1) hx hb hr rfl (fun t ht hW => ⟨1, rfl, ⟨by decide, by decide⟩, ht⟩) (fun q h => by cases h) dX6_isLeaking_24
set_option maxHeartbeats 4000000 in
set_option maxRecDepth 100000 in
theorem s_W_leaking (l : Launch) (D : va_G) (k : Nat → ClassId) (w : Nat → Nat) (y : Nat → Int32) (g : Nat → Nat → Int32) (w_h0 : 0 ≤ (y 0).toInt ∧ (y 0).toInt ≤ 10) (w_h2 : 0 ≤ (y 2).toInt ∧ (y 2).toInt ≤ 6) (w_h6 : 0 ≤ (y 6).toInt ∧ (y 6).toInt ≤ 1) (w_hd : ∀ j : Nat, 0 ≤ ((g 1) j).toInt ∧ ((g 1) j).toInt ≤ 6) : Met l yX6_leaking (Cond.code yX6_leaking cX6_leaking 4 (some .int) :: wsL_law) ({ frames := 3, cells := 0, slots := 0, locals := 180 } : Room) (va_Pc [.ref (w 0)] (pr D k [((w 0), .inr (5, [.int (y 0), .int (y 1), .int (y 2), .int (y 3), .int (y 4), .int (y 5), .int (y 6), .int (y 7), .int (y 8), .int (y 9), .int (y 10), .ref (w 1), .ref (w 2), .ref (w 3), .ref (w 4), .ref (w 5)])), ((w 1), .inl (k 0, 10, .inl (g 1))), ((w 3), .inl (k 0, 60, .inl (g 3)))])) (vp_Si (fun rr => True)) 0 0 (fun _ => False) := by
  refine Met.ofW (cc := cX6_leaking) (maxL := 4) (ret := (some .int)) (by decide) rfl ?_
  intro p e s m args below meth c s₁ B hml hv
  obtain ⟨rfl, hP, hK, hN0⟩ := hv
  have hx := B.exec
  have hb := B.bytes
  have hr := B.returns
  have hts : ∀ w ∈ wsL_law, w.before _ s = true := fun w h => atoms_spec (ws := Cond.code yX6_leaking cX6_leaking 4 (some .int) :: wsL_law) B.pre w (List.mem_cons_of_mem _ h)
  have hown : s.vm.findClass RX6 = some m.cls := findClass_of_methodNamed B.named
  have hlocks := B.notSynchronized
  have hP : va_P D vwCl [((w 0), .inr (5, [.int (y 0), .int (y 1), .int (y 2), .int (y 3), .int (y 4), .int (y 5), .int (y 6), .int (y 7), .int (y 8), .int (y 9), .int (y 10), .ref (w 1), .ref (w 2), .ref (w 3), .ref (w 4), .ref (w 5)])), ((w 1), .inl (k 0, 10, .inl (g 1))), ((w 3), .inl (k 0, 60, .inl (g 3)))] s.heap := hP
  have hl := lv_entry ([.ref (w 0)]) (n := 4) (Nat.le_of_ble_eq_true rfl)
  rw [lg_entry_eq]
  generalize (lg_sl ([.ref (w 0)]) ++ List.replicate (4 - (lg_sl ([.ref (w 0)])).length) Slot.unset).toArray = ls at hl ⊢
  have hl : lv_has ls 4 [(0, .ref (w 0))] := hl
  refine lv_iconst (v := 0) hx hb dX6_leaking_0 (by decide) ?_
  refine lv_istore_n (lv' := [(1, .int 0), (0, .ref (w 0))]) hx hb dX6_leaking_1 rfl hl (by decide) rfl (fun ls hl => ?_)
  refine lv_iconst (v := 0) hx hb dX6_leaking_2 (by decide) ?_
  refine lv_istore_n (lv' := [(2, .int 0), (1, .int 0), (0, .ref (w 0))]) hx hb dX6_leaking_3 rfl hl (by decide) rfl (fun ls hl => ?_)
  refine W_loop (σ := Int32 × Int32) (fun xx H locs ls => (0 ≤ xx.1.toInt ∧ xx.1.toInt ≤ 10) ∧ va_P D vwCl [((w 0), .inr (5, [.int (y 0), .int (y 1), .int (y 2), .int (y 3), .int (y 4), .int (y 5), .int (y 6), .int (y 7), .int (y 8), .int (y 9), .int (y 10), .ref (w 1), .ref (w 2), .ref (w 3), .ref (w 4), .ref (w 5)])), ((w 1), .inl (k 0, 10, .inl (g 1))), ((w 3), .inl (k 0, 60, .inl (g 3)))] H ∧ H = s.heap ∧ locs = [] ∧ lv_has ls 4 [(2, .int xx.1), (1, .int xx.2), (0, .ref (w 0))]) (fun xx => (10 - xx.1.toInt).toNat) ?_ (0, 0) _ _ ls ⟨(show 0 ≤ (0 : Int32).toInt ∧ (0 : Int32).toInt ≤ 10 from ⟨by decide, by decide⟩), hP.sub [0, 1, 2] rfl, rfl, rfl, lv_sub hl [0, 1, 2] rfl⟩
  intro xx H locs ls hI ih4
  obtain ⟨i_1, y_2⟩ := xx
  obtain ⟨h_3, hP, rfl, rfl, hl⟩ := hI
  have h_3 : 0 ≤ i_1.toInt ∧ i_1.toInt ≤ 10 := h_3
  obtain ⟨h_3a, h_3b⟩ := h_3
  have hP : va_P D vwCl [((w 0), .inr (5, [.int (y 0), .int (y 1), .int (y 2), .int (y 3), .int (y 4), .int (y 5), .int (y 6), .int (y 7), .int (y 8), .int (y 9), .int (y 10), .ref (w 1), .ref (w 2), .ref (w 3), .ref (w 4), .ref (w 5)])), ((w 1), .inl (k 0, 10, .inl (g 1))), ((w 3), .inl (k 0, 60, .inl (g 3)))] s.heap := hP
  have hl : lv_has ls 4 [(2, .int i_1), (1, .int y_2), (0, .ref (w 0))] := hl
  refine lv_iload_n hx hb dX6_leaking_4 rfl (lv_at hl 0 rfl) ?_
  refine lv_aload_n hx hb dX6_leaking_5 rfl (lv_at hl 2 rfl) ?_
  refine va_get (D := D) (ci := 5) (v := .int (y 0)) (C := RX6) (T := TX6) (N := 16) hx hb hts inlX6 hown hK hP 0 rfl rfl 0 (by decide) (hts _ mw_152) (fun _ h9 => h9) rfl dX6_leaking_6 ?_
  refine lv_icmp_ge (tgt := 57) hx hb dX6_leaking_9 (by decide) (fun c_4 => ?_) (fun c_4 => ?_)
  · have c_4 : (y 0).toInt ≤ i_1.toInt := ti_le c_4
    refine lv_iload_n hx hb dX6_leaking_57 rfl (lv_at hl 1 rfl) ?_
    exact W.iret (v := y_2) hx hb hr (fun t ht hW => ⟨y_2, rfl, trivial, ht⟩) (fun q h => by cases h) dX6_leaking_58
  · have c_4 : i_1.toInt < (y 0).toInt := ti_nle c_4
    refine lv_aload_n hx hb dX6_leaking_12 rfl (lv_at hl 2 rfl) ?_
    refine va_get (D := D) (ci := 5) (v := .int (y 7)) (C := RX6) (T := TX6) (N := 16) hx hb hts inlX6 hown hK hP 0 rfl rfl 7 (by decide) (hts _ mw_155) (fun _ h9 => h9) rfl dX6_leaking_13 ?_
    refine lv_iload_n hx hb dX6_leaking_16 rfl (lv_at hl 0 rfl) ?_
    refine kSN_i (As := [.int (y 7), .int i_1]) (rest := []) ⟨hx, hb, hml, hown, hts⟩ (s_T_bit l D k (y 7) i_1) mw_370 mw_2 mw_369 (host := "ThatchNext") (List.mem_of_getElem? (i := 9) rfl) hd_yX7_bit rfl rfl ⟨Nat.le_of_ble_eq_true rfl, Nat.le_of_ble_eq_true rfl⟩ hK hN0 (hP.sub [] rfl) rfl hl.1 rfl (Nat.le_of_ble_eq_true rfl) dX6_leaking_17 ⟨Nat.le_of_ble_eq_true rfl, Nat.le_of_ble_eq_true rfl⟩ (fun r_5 hr_5 => ?_)
    have hr_5 : 0 ≤ r_5.toInt ∧ r_5.toInt ≤ 1 := hr_5
    refine lv_if_ne (tgt := 35) hx hb dX6_leaking_20 (by decide) (fun c_6 => ?_) (fun c_6 => ?_)
    · have c_6 : r_5.toInt ≠ 0 := ti_ne c_6
      have qc_6 : r_5 = 1 := ti_of (show r_5.toInt = 1 from by omega)
      refine lv_iconst (v := 0) hx hb dX6_leaking_35 (by decide) ?_
      refine lv_istore_n (lv' := [(3, .int 0), (2, .int i_1), (1, .int y_2), (0, .ref (w 0))]) hx hb dX6_leaking_36 rfl hl (by decide) rfl (fun ls hl => ?_)
      refine lv_iload_n hx hb dX6_leaking_37 rfl (lv_at hl 2 rfl) ?_
      refine lv_iload_n hx hb dX6_leaking_38 rfl (lv_at hl 0 rfl) ?_
      refine lv_if_eq (tgt := 48) hx hb dX6_leaking_39 (by decide) (fun _ => ?_) (fun c9 => absurd c9 (by decide))
      refine lv_iconst (v := 0) hx hb dX6_leaking_48 (by decide) ?_
      refine lv_ior hx hb dX6_leaking_49 ?_
      refine lv_ni (v := y_2) (ior_0 _) ?_
      refine lv_istore_n (lv' := [(1, .int y_2), (3, .int 0), (2, .int i_1), (0, .ref (w 0))]) hx hb dX6_leaking_50 rfl hl (by decide) rfl (fun ls hl => ?_)
      obtain ⟨z_7, ez_7⟩ : ∃ y : Int32, y = i_1 + 1 := ⟨_, rfl⟩
      have tz_7 : z_7.toInt = i_1.toInt + 1 := by rw [ez_7]; exact ti_addc (by decide) (by omega) (by omega)
      refine lv_iinc (v := z_7) (lv' := [(2, .int z_7), (1, .int y_2), (3, .int 0), (0, .ref (w 0))]) hx hb dX6_leaking_51 hl (k := 2) rfl (ez_7.symm) (by decide) rfl (fun ls hl => ?_)
      refine lv_goto (tgt := 4) hx hb dX6_leaking_54 (by decide) ?_
      exact ih4 (z_7, y_2) _ _ ls (by show (10 - z_7.toInt).toNat < (10 - i_1.toInt).toNat; omega) ⟨(show 0 ≤ z_7.toInt ∧ z_7.toInt ≤ 10 from ⟨by omega, by omega⟩), hP.sub [0, 1, 2] rfl, rfl, rfl, lv_sub hl [0, 1, 3] rfl⟩
    · have c_6 : r_5.toInt = 0 := ti_eq c_6
      have qc_6 : r_5 = 0 := ti_of (show r_5.toInt = 0 from by omega)
      refine lv_aload_n hx hb dX6_leaking_23 rfl (lv_at hl 2 rfl) ?_
      refine lv_iload_n hx hb dX6_leaking_24 rfl (lv_at hl 0 rfl) ?_
      refine kV_i (q0 := 0) (As := [.int i_1]) (rest := []) ⟨hx, hb, hml, hown, hts⟩ (s_W_soundIn l D k _ y g i_1 (show 0 ≤ (y 0).toInt ∧ (y 0).toInt ≤ 10 from ⟨by omega, by omega⟩) (show 0 ≤ (y 2).toInt ∧ (y 2).toInt ≤ 6 from ⟨by omega, by omega⟩) (show 0 ≤ (y 6).toInt ∧ (y 6).toInt ≤ 1 from ⟨by omega, by omega⟩) (show ∀ j : Nat, 0 ≤ ((g 1) j).toInt ∧ ((g 1) j).toInt ≤ 6 from w_hd) (show 0 ≤ i_1.toInt ∧ i_1.toInt ≤ 9 from ⟨by omega, by omega⟩)) (gV mw_379 mw_380 mw_381 mw_19 mw_382) hd_yX6_soundIn rfl rfl ⟨Nat.le_of_ble_eq_true rfl, Nat.le_of_ble_eq_true rfl⟩ hK hN0 (hP.sub [0, 1, 2] rfl) rfl rfl rfl rfl hl.1 rfl (Nat.le_of_ble_eq_true rfl) dX6_leaking_25 ⟨Nat.le_of_ble_eq_true rfl, Nat.le_of_ble_eq_true rfl⟩ (fun r_8 hr_8 => ?_)
      refine lv_if_ne (tgt := 35) hx hb dX6_leaking_28 (by decide) (fun c_9 => ?_) (fun c_9 => ?_)
      · have c_9 : r_8.toInt ≠ 0 := ti_ne c_9
        refine lv_iconst (v := 0) hx hb dX6_leaking_35 (by decide) ?_
        refine lv_istore_n (lv' := [(3, .int 0), (2, .int i_1), (1, .int y_2), (0, .ref (w 0))]) hx hb dX6_leaking_36 rfl hl (by decide) rfl (fun ls hl => ?_)
        refine lv_iload_n hx hb dX6_leaking_37 rfl (lv_at hl 2 rfl) ?_
        refine lv_iload_n hx hb dX6_leaking_38 rfl (lv_at hl 0 rfl) ?_
        refine lv_if_eq (tgt := 48) hx hb dX6_leaking_39 (by decide) (fun _ => ?_) (fun c9 => absurd c9 (by decide))
        refine lv_iconst (v := 0) hx hb dX6_leaking_48 (by decide) ?_
        refine lv_ior hx hb dX6_leaking_49 ?_
        refine lv_ni (v := y_2) (ior_0 _) ?_
        refine lv_istore_n (lv' := [(1, .int y_2), (3, .int 0), (2, .int i_1), (0, .ref (w 0))]) hx hb dX6_leaking_50 rfl hl (by decide) rfl (fun ls hl => ?_)
        obtain ⟨z_10, ez_10⟩ : ∃ y : Int32, y = i_1 + 1 := ⟨_, rfl⟩
        have tz_10 : z_10.toInt = i_1.toInt + 1 := by rw [ez_10]; exact ti_addc (by decide) (by omega) (by omega)
        refine lv_iinc (v := z_10) (lv' := [(2, .int z_10), (1, .int y_2), (3, .int 0), (0, .ref (w 0))]) hx hb dX6_leaking_51 hl (k := 2) rfl (ez_10.symm) (by decide) rfl (fun ls hl => ?_)
        refine lv_goto (tgt := 4) hx hb dX6_leaking_54 (by decide) ?_
        exact ih4 (z_10, y_2) _ _ ls (by show (10 - z_10.toInt).toNat < (10 - i_1.toInt).toNat; omega) ⟨(show 0 ≤ z_10.toInt ∧ z_10.toInt ≤ 10 from ⟨by omega, by omega⟩), hP.sub [0, 1, 2] rfl, rfl, rfl, lv_sub hl [0, 1, 3] rfl⟩
      · have c_9 : r_8.toInt = 0 := ti_eq c_9
        have qc_9 : r_8 = 0 := ti_of (show r_8.toInt = 0 from by omega)
        refine lv_iconst (v := 1) hx hb dX6_leaking_31 (by decide) ?_
        refine lv_goto (tgt := 36) hx hb dX6_leaking_32 (by decide) ?_
        refine lv_istore_n (lv' := [(3, .int 1), (2, .int i_1), (1, .int y_2), (0, .ref (w 0))]) hx hb dX6_leaking_36 rfl hl (by decide) rfl (fun ls hl => ?_)
        refine lv_iload_n hx hb dX6_leaking_37 rfl (lv_at hl 2 rfl) ?_
        refine lv_iload_n hx hb dX6_leaking_38 rfl (lv_at hl 0 rfl) ?_
        refine lv_if_eq (tgt := 48) hx hb dX6_leaking_39 (by decide) (fun c9 => absurd c9 (by decide)) (fun _ => ?_)
        refine lv_iconst (v := 1) hx hb dX6_leaking_42 (by decide) ?_
        refine lv_iload_n hx hb dX6_leaking_43 rfl (lv_at hl 1 rfl) ?_
        refine lv_ishl hx hb dX6_leaking_44 ?_
        refine lv_topi (fun z_11 ez_11 => ?_)
        refine lv_goto (tgt := 49) hx hb dX6_leaking_45 (by decide) ?_
        refine lv_ior hx hb dX6_leaking_49 ?_
        refine lv_topi (fun z_12 ez_12 => ?_)
        refine lv_istore_n (lv' := [(1, .int z_12), (3, .int 1), (2, .int i_1), (0, .ref (w 0))]) hx hb dX6_leaking_50 rfl hl (by decide) rfl (fun ls hl => ?_)
        obtain ⟨z_13, ez_13⟩ : ∃ y : Int32, y = i_1 + 1 := ⟨_, rfl⟩
        have tz_13 : z_13.toInt = i_1.toInt + 1 := by rw [ez_13]; exact ti_addc (by decide) (by omega) (by omega)
        refine lv_iinc (v := z_13) (lv' := [(2, .int z_13), (1, .int z_12), (3, .int 1), (0, .ref (w 0))]) hx hb dX6_leaking_51 hl (k := 2) rfl (ez_13.symm) (by decide) rfl (fun ls hl => ?_)
        refine lv_goto (tgt := 4) hx hb dX6_leaking_54 (by decide) ?_
        exact ih4 (z_13, z_12) _ _ ls (by show (10 - z_13.toInt).toNat < (10 - i_1.toInt).toNat; omega) ⟨(show 0 ≤ z_13.toInt ∧ z_13.toInt ≤ 10 from ⟨by omega, by omega⟩), hP.sub [0, 1, 2] rfl, rfl, rfl, lv_sub hl [0, 1, 3] rfl⟩
set_option maxHeartbeats 4000000 in
set_option maxRecDepth 100000 in
theorem s_W_yearFault (l : Launch) (D : va_G) (k : Nat → ClassId) (w : Nat → Nat) (y : Nat → Int32) (lx : Int64) (w_h0 : 0 ≤ (y 0).toInt ∧ (y 0).toInt ≤ 10) (w_h2 : 0 ≤ (y 2).toInt ∧ (y 2).toInt ≤ 6) (w_h6 : 0 ≤ (y 6).toInt ∧ (y 6).toInt ≤ 1) : Met l yX6_yearFault (Cond.code yX6_yearFault cX6_yearFault 3 (some .int) :: wsL_law) ({ frames := 2, cells := 0, slots := 0, locals := 120 } : Room) (va_Pc [.ref (w 0), .long lx] (pr D k [((w 0), .inr (5, [.int (y 0), .int (y 1), .int (y 2), .int (y 3), .int (y 4), .int (y 5), .int (y 6), .int (y 7), .int (y 8), .int (y 9), .int (y 10), .ref (w 1), .ref (w 2), .ref (w 3), .ref (w 4), .ref (w 5)]))])) (vp_Si (fun rr => 0 ≤ rr.toInt ∧ rr.toInt ≤ 3)) 0 0 (fun _ => False) := by
  refine Met.ofW (cc := cX6_yearFault) (maxL := 3) (ret := (some .int)) (by decide) rfl ?_
  intro p e s m args below meth c s₁ B hml hv
  obtain ⟨rfl, hP, hK, hN0⟩ := hv
  have hx := B.exec
  have hb := B.bytes
  have hr := B.returns
  have hts : ∀ w ∈ wsL_law, w.before _ s = true := fun w h => atoms_spec (ws := Cond.code yX6_yearFault cX6_yearFault 3 (some .int) :: wsL_law) B.pre w (List.mem_cons_of_mem _ h)
  have hown : s.vm.findClass RX6 = some m.cls := findClass_of_methodNamed B.named
  have hlocks := B.notSynchronized
  have hP : va_P D vwCl [((w 0), .inr (5, [.int (y 0), .int (y 1), .int (y 2), .int (y 3), .int (y 4), .int (y 5), .int (y 6), .int (y 7), .int (y 8), .int (y 9), .int (y 10), .ref (w 1), .ref (w 2), .ref (w 3), .ref (w 4), .ref (w 5)]))] s.heap := hP
  have hl := lv_entry ([.ref (w 0), .long lx]) (n := 3) (Nat.le_of_ble_eq_true rfl)
  rw [lg_entry_eq]
  generalize (lg_sl ([.ref (w 0), .long lx]) ++ List.replicate (3 - (lg_sl ([.ref (w 0), .long lx])).length) Slot.unset).toArray = ls at hl ⊢
  have hl : lv_has ls 3 [(0, .ref (w 0)), (1, .long lx)] := hl
  refine lv_lload_n hx hb dX6_yearFault_0 rfl (lv_at hl 1 rfl) ?_
  refine lv_aload_n hx hb dX6_yearFault_1 rfl (lv_at hl 0 rfl) ?_
  refine kV_i (q0 := 0) (As := []) (rest := [.long lx]) ⟨hx, hb, hml, hown, hts⟩ (s_W_allRoofs l D k _ y (show 0 ≤ (y 0).toInt ∧ (y 0).toInt ≤ 10 from ⟨by omega, by omega⟩) (show 0 ≤ (y 2).toInt ∧ (y 2).toInt ≤ 6 from ⟨by omega, by omega⟩) (show 0 ≤ (y 6).toInt ∧ (y 6).toInt ≤ 1 from ⟨by omega, by omega⟩)) (gV mw_474 mw_475 mw_476 mw_19 mw_477) hd_yX6_allRoofs rfl rfl ⟨Nat.le_of_ble_eq_true rfl, Nat.le_of_ble_eq_true rfl⟩ hK hN0 (hP.sub [0] rfl) rfl rfl rfl rfl hl.1 rfl (Nat.le_of_ble_eq_true rfl) dX6_yearFault_2 ⟨Nat.le_of_ble_eq_true rfl, Nat.le_of_ble_eq_true rfl⟩ (fun r_1 hr_1 => ?_)
  have hr_1 : 0 ≤ r_1.toInt ∧ r_1.toInt ≤ 1023 := hr_1
  refine lv_i2l (v := r_1.toInt64) hx hb dX6_yearFault_5 rfl ?_
  refine lv_ldc2 (own := RX6) (index := 118) (v := (-1)) hx hb hown (hts _ mw_473) dX6_yearFault_6 ?_
  refine lv_lxor hx hb dX6_yearFault_9 ?_
  refine lv_topl (fun z_2 ez_2 => ?_)
  refine lv_land hx hb dX6_yearFault_10 ?_
  refine lv_topl (fun z_3 ez_3 => ?_)
  refine lv_lconst (v := 0) hx hb dX6_yearFault_11 (by decide) ?_
  refine W.lcmp hx hb dX6_yearFault_12 ?_
  rcases lg3 z_3 0 with ⟨h_4, eh_4⟩ | ⟨h_4, eh_4⟩ | ⟨h_4, eh_4⟩
  · have h_4 : z_3.toInt < 0 := h_4
    refine lv_ni (v := (-1)) eh_4 ?_
    refine lv_if_eq (tgt := 18) hx hb dX6_yearFault_13 (by decide) (fun c9 => absurd c9 (by decide)) (fun _ => ?_)
    refine lv_iconst (v := 1) hx hb dX6_yearFault_16 (by decide) ?_
    exact W.iret (v := 1) hx hb hr (fun t ht hW => ⟨1, rfl, ⟨by decide, by decide⟩, ht⟩) (fun q h => by cases h) dX6_yearFault_17
  · have h_4 : z_3.toInt = 0 := h_4
    refine lv_ni (v := 0) eh_4 ?_
    refine lv_if_eq (tgt := 18) hx hb dX6_yearFault_13 (by decide) (fun _ => ?_) (fun c9 => absurd c9 (by decide))
    refine lv_lload_n hx hb dX6_yearFault_18 rfl (lv_at hl 1 rfl) ?_
    refine lv_aload_n hx hb dX6_yearFault_19 rfl (lv_at hl 0 rfl) ?_
    refine va_get (D := D) (ci := 5) (v := .int (y 7)) (C := RX6) (T := TX6) (N := 16) hx hb hts inlX6 hown hK hP 0 rfl rfl 7 (by decide) (hts _ mw_155) (fun _ h9 => h9) rfl dX6_yearFault_20 ?_
    refine lv_i2l (v := (y 7).toInt64) hx hb dX6_yearFault_23 rfl ?_
    refine lv_land hx hb dX6_yearFault_24 ?_
    refine lv_topl (fun z_5 ez_5 => ?_)
    refine lv_lconst (v := 0) hx hb dX6_yearFault_25 (by decide) ?_
    refine W.lcmp hx hb dX6_yearFault_26 ?_
    rcases lg3 z_5 0 with ⟨h_6, eh_6⟩ | ⟨h_6, eh_6⟩ | ⟨h_6, eh_6⟩
    · have h_6 : z_5.toInt < 0 := h_6
      refine lv_ni (v := (-1)) eh_6 ?_
      refine lv_if_eq (tgt := 32) hx hb dX6_yearFault_27 (by decide) (fun c9 => absurd c9 (by decide)) (fun _ => ?_)
      refine lv_iconst (v := 2) hx hb dX6_yearFault_30 (by decide) ?_
      exact W.iret (v := 2) hx hb hr (fun t ht hW => ⟨2, rfl, ⟨by decide, by decide⟩, ht⟩) (fun q h => by cases h) dX6_yearFault_31
    · have h_6 : z_5.toInt = 0 := h_6
      refine lv_ni (v := 0) eh_6 ?_
      refine lv_if_eq (tgt := 32) hx hb dX6_yearFault_27 (by decide) (fun _ => ?_) (fun c9 => absurd c9 (by decide))
      refine lv_aload_n hx hb dX6_yearFault_32 rfl (lv_at hl 0 rfl) ?_
      refine va_get (D := D) (ci := 5) (v := .int (y 1)) (C := RX6) (T := TX6) (N := 16) hx hb hts inlX6 hown hK hP 0 rfl rfl 1 (by decide) (hts _ mw_153) (fun _ h9 => h9) rfl dX6_yearFault_33 ?_
      refine lv_sipush (v := 999) hx hb dX6_yearFault_36 (by decide) ?_
      refine lv_icmp_lt (tgt := 46) hx hb dX6_yearFault_39 (by decide) (fun c_7 => ?_) (fun c_7 => ?_)
      · have c_7 : (y 1).toInt < 999 := ti_lt c_7
        refine lv_iconst (v := 0) hx hb dX6_yearFault_46 (by decide) ?_
        exact W.iret (v := 0) hx hb hr (fun t ht hW => ⟨0, rfl, ⟨by decide, by decide⟩, ht⟩) (fun q h => by cases h) dX6_yearFault_47
      · have c_7 : 999 ≤ (y 1).toInt := ti_nlt c_7
        refine lv_iconst (v := 3) hx hb dX6_yearFault_42 (by decide) ?_
        refine lv_goto (tgt := 47) hx hb dX6_yearFault_43 (by decide) ?_
        exact W.iret (v := 3) hx hb hr (fun t ht hW => ⟨3, rfl, ⟨by decide, by decide⟩, ht⟩) (fun q h => by cases h) dX6_yearFault_47
    · have h_6 : z_5.toInt > 0 := h_6
      refine lv_ni (v := 1) eh_6 ?_
      refine lv_if_eq (tgt := 32) hx hb dX6_yearFault_27 (by decide) (fun c9 => absurd c9 (by decide)) (fun _ => ?_)
      refine lv_iconst (v := 2) hx hb dX6_yearFault_30 (by decide) ?_
      exact W.iret (v := 2) hx hb hr (fun t ht hW => ⟨2, rfl, ⟨by decide, by decide⟩, ht⟩) (fun q h => by cases h) dX6_yearFault_31
  · have h_4 : z_3.toInt > 0 := h_4
    refine lv_ni (v := 1) eh_4 ?_
    refine lv_if_eq (tgt := 18) hx hb dX6_yearFault_13 (by decide) (fun c9 => absurd c9 (by decide)) (fun _ => ?_)
    refine lv_iconst (v := 1) hx hb dX6_yearFault_16 (by decide) ?_
    exact W.iret (v := 1) hx hb hr (fun t ht hW => ⟨1, rfl, ⟨by decide, by decide⟩, ht⟩) (fun q h => by cases h) dX6_yearFault_17
set_option maxHeartbeats 4000000 in
set_option maxRecDepth 100000 in
theorem s_W_maySkip (l : Launch) (D : va_G) (k : Nat → ClassId) (w : Nat → Nat) (y : Nat → Int32) (x : Int32) (w_h0 : 0 ≤ (y 0).toInt ∧ (y 0).toInt ≤ 10) (w_h2 : 0 ≤ (y 2).toInt ∧ (y 2).toInt ≤ 6) (w_h6 : 0 ≤ (y 6).toInt ∧ (y 6).toInt ≤ 1) : Met l yX6_maySkip (Cond.code yX6_maySkip cX6_maySkip 3 (some .boolean) :: wsL_law) ({ frames := 3, cells := 0, slots := 0, locals := 180 } : Room) (va_Pc [.ref (w 0), .int x] (pr D k [((w 0), .inr (5, [.int (y 0), .int (y 1), .int (y 2), .int (y 3), .int (y 4), .int (y 5), .int (y 6), .int (y 7), .int (y 8), .int (y 9), .int (y 10), .ref (w 1), .ref (w 2), .ref (w 3), .ref (w 4), .ref (w 5)]))])) (vp_Si (fun rr => 0 ≤ rr.toInt ∧ rr.toInt ≤ 1)) 0 0 (fun _ => False) := by
  refine Met.ofW (cc := cX6_maySkip) (maxL := 3) (ret := (some .boolean)) (by decide) rfl ?_
  intro p e s m args below meth c s₁ B hml hv
  obtain ⟨rfl, hP, hK, hN0⟩ := hv
  have hx := B.exec
  have hb := B.bytes
  have hr := B.returns
  have hts : ∀ w ∈ wsL_law, w.before _ s = true := fun w h => atoms_spec (ws := Cond.code yX6_maySkip cX6_maySkip 3 (some .boolean) :: wsL_law) B.pre w (List.mem_cons_of_mem _ h)
  have hown : s.vm.findClass RX6 = some m.cls := findClass_of_methodNamed B.named
  have hlocks := B.notSynchronized
  have hP : va_P D vwCl [((w 0), .inr (5, [.int (y 0), .int (y 1), .int (y 2), .int (y 3), .int (y 4), .int (y 5), .int (y 6), .int (y 7), .int (y 8), .int (y 9), .int (y 10), .ref (w 1), .ref (w 2), .ref (w 3), .ref (w 4), .ref (w 5)]))] s.heap := hP
  have hl := lv_entry ([.ref (w 0), .int x]) (n := 3) (Nat.le_of_ble_eq_true rfl)
  rw [lg_entry_eq]
  generalize (lg_sl ([.ref (w 0), .int x]) ++ List.replicate (3 - (lg_sl ([.ref (w 0), .int x])).length) Slot.unset).toArray = ls at hl ⊢
  have hl : lv_has ls 3 [(0, .ref (w 0)), (1, .int x)] := hl
  refine lv_aload_n hx hb dX6_maySkip_0 rfl (lv_at hl 0 rfl) ?_
  refine lv_iload_n hx hb dX6_maySkip_1 rfl (lv_at hl 1 rfl) ?_
  refine lv_i2l (v := x.toInt64) hx hb dX6_maySkip_2 rfl ?_
  refine kV_i (q0 := 0) (As := [.long x.toInt64]) (rest := []) ⟨hx, hb, hml, hown, hts⟩ (s_W_yearFault l D k _ y x.toInt64 (show 0 ≤ (y 0).toInt ∧ (y 0).toInt ≤ 10 from ⟨by omega, by omega⟩) (show 0 ≤ (y 2).toInt ∧ (y 2).toInt ≤ 6 from ⟨by omega, by omega⟩) (show 0 ≤ (y 6).toInt ∧ (y 6).toInt ≤ 1 from ⟨by omega, by omega⟩)) (gV mw_469 mw_470 mw_471 mw_19 mw_472) hd_yX6_yearFault rfl rfl ⟨Nat.le_of_ble_eq_true rfl, Nat.le_of_ble_eq_true rfl⟩ hK hN0 (hP.sub [0] rfl) rfl rfl rfl rfl hl.1 rfl (Nat.le_of_ble_eq_true rfl) dX6_maySkip_3 ⟨Nat.le_of_ble_eq_true rfl, Nat.le_of_ble_eq_true rfl⟩ (fun r_1 hr_1 => ?_)
  have hr_1 : 0 ≤ r_1.toInt ∧ r_1.toInt ≤ 3 := hr_1
  refine lv_istore_n (lv' := [(2, .int r_1), (0, .ref (w 0)), (1, .int x)]) hx hb dX6_maySkip_6 rfl hl (by decide) rfl (fun ls hl => ?_)
  refine lv_iload_n hx hb dX6_maySkip_7 rfl (lv_at hl 0 rfl) ?_
  refine lv_iconst (v := 1) hx hb dX6_maySkip_8 (by decide) ?_
  refine lv_icmp_eq (tgt := 21) hx hb dX6_maySkip_9 (by decide) (fun c_2 => ?_) (fun c_2 => ?_)
  · have c_2 : r_1.toInt = 1 := ti_eq c_2
    have qc_2 : r_1 = 1 := ti_of (show r_1.toInt = 1 from by omega)
    refine lv_iconst (v := 0) hx hb dX6_maySkip_21 (by decide) ?_
    exact W.zret (v := 0) hx hb hr rfl (fun t ht hW => ⟨0, rfl, ⟨by decide, by decide⟩, ht⟩) (fun q h => by cases h) dX6_maySkip_22
  · have c_2 : r_1.toInt ≠ 1 := ti_ne c_2
    refine lv_iload_n hx hb dX6_maySkip_12 rfl (lv_at hl 0 rfl) ?_
    refine lv_iconst (v := 2) hx hb dX6_maySkip_13 (by decide) ?_
    refine lv_icmp_eq (tgt := 21) hx hb dX6_maySkip_14 (by decide) (fun c_3 => ?_) (fun c_3 => ?_)
    · have c_3 : r_1.toInt = 2 := ti_eq c_3
      have qc_3 : r_1 = 2 := ti_of (show r_1.toInt = 2 from by omega)
      refine lv_iconst (v := 0) hx hb dX6_maySkip_21 (by decide) ?_
      exact W.zret (v := 0) hx hb hr rfl (fun t ht hW => ⟨0, rfl, ⟨by decide, by decide⟩, ht⟩) (fun q h => by cases h) dX6_maySkip_22
    · have c_3 : r_1.toInt ≠ 2 := ti_ne c_3
      refine lv_iconst (v := 1) hx hb dX6_maySkip_17 (by decide) ?_
      refine lv_goto (tgt := 22) hx hb dX6_maySkip_18 (by decide) ?_
      exact W.zret (v := 1) hx hb hr rfl (fun t ht hW => ⟨1, rfl, ⟨by decide, by decide⟩, ht⟩) (fun q h => by cases h) dX6_maySkip_22
set_option maxHeartbeats 4000000 in
set_option maxRecDepth 100000 in
theorem s_W_sourceFor (l : Launch) (D : va_G) (k : Nat → ClassId) (w : Nat → Nat) (y : Nat → Int32) (r : Int32) (x : Int32) (w_h0 : 0 ≤ (y 0).toInt ∧ (y 0).toInt ≤ 10) (w_h2 : 0 ≤ (y 2).toInt ∧ (y 2).toInt ≤ 6) (w_h6 : 0 ≤ (y 6).toInt ∧ (y 6).toInt ≤ 1) (w_hr : 0 ≤ r.toInt ∧ r.toInt ≤ 9) : Met l yX6_sourceFor (Cond.code yX6_sourceFor cX6_sourceFor 4 (some .int) :: wsL_law) ({ frames := 1, cells := 0, slots := 0, locals := 60 } : Room) (va_Pc [.ref (w 0), .int r, .int x] (pr D k [((w 0), .inr (5, [.int (y 0), .int (y 1), .int (y 2), .int (y 3), .int (y 4), .int (y 5), .int (y 6), .int (y 7), .int (y 8), .int (y 9), .int (y 10), .ref (w 1), .ref (w 2), .ref (w 3), .ref (w 4), .ref (w 5)]))])) (vp_Si (fun rr => -1 ≤ rr.toInt ∧ rr.toInt ≤ 9)) 0 0 (fun _ => False) := by
  refine Met.ofW (cc := cX6_sourceFor) (maxL := 4) (ret := (some .int)) (by decide) rfl ?_
  intro p e s m args below meth c s₁ B hml hv
  obtain ⟨rfl, hP, hK, hN0⟩ := hv
  have hx := B.exec
  have hb := B.bytes
  have hr := B.returns
  have hts : ∀ w ∈ wsL_law, w.before _ s = true := fun w h => atoms_spec (ws := Cond.code yX6_sourceFor cX6_sourceFor 4 (some .int) :: wsL_law) B.pre w (List.mem_cons_of_mem _ h)
  have hown : s.vm.findClass RX6 = some m.cls := findClass_of_methodNamed B.named
  have hlocks := B.notSynchronized
  have hP : va_P D vwCl [((w 0), .inr (5, [.int (y 0), .int (y 1), .int (y 2), .int (y 3), .int (y 4), .int (y 5), .int (y 6), .int (y 7), .int (y 8), .int (y 9), .int (y 10), .ref (w 1), .ref (w 2), .ref (w 3), .ref (w 4), .ref (w 5)]))] s.heap := hP
  have hl := lv_entry ([.ref (w 0), .int r, .int x]) (n := 4) (Nat.le_of_ble_eq_true rfl)
  rw [lg_entry_eq]
  generalize (lg_sl ([.ref (w 0), .int r, .int x]) ++ List.replicate (4 - (lg_sl ([.ref (w 0), .int r, .int x])).length) Slot.unset).toArray = ls at hl ⊢
  have hl : lv_has ls 4 [(0, .ref (w 0)), (1, .int r), (2, .int x)] := hl
  refine lv_aload_n hx hb dX6_sourceFor_0 rfl (lv_at hl 0 rfl) ?_
  refine lv_iload_n hx hb dX6_sourceFor_1 rfl (lv_at hl 1 rfl) ?_
  refine kV_i (q0 := 0) (As := [.int r]) (rest := []) ⟨hx, hb, hml, hown, hts⟩ (s_W_giverOf l D k _ y r (show 0 ≤ (y 0).toInt ∧ (y 0).toInt ≤ 10 from ⟨by omega, by omega⟩) (show 0 ≤ (y 2).toInt ∧ (y 2).toInt ≤ 6 from ⟨by omega, by omega⟩) (show 0 ≤ (y 6).toInt ∧ (y 6).toInt ≤ 1 from ⟨by omega, by omega⟩) (show 0 ≤ r.toInt ∧ r.toInt ≤ 9 from ⟨by omega, by omega⟩)) (gV mw_505 mw_372 mw_373 mw_19 mw_374) hd_yX6_giverOf rfl rfl ⟨Nat.le_of_ble_eq_true rfl, Nat.le_of_ble_eq_true rfl⟩ hK hN0 (hP.sub [0] rfl) rfl rfl rfl rfl hl.1 rfl (Nat.le_of_ble_eq_true rfl) dX6_sourceFor_2 ⟨Nat.le_of_ble_eq_true rfl, Nat.le_of_ble_eq_true rfl⟩ (fun r_1 hr_1 => ?_)
  have hr_1 : -1 ≤ r_1.toInt ∧ r_1.toInt ≤ 9 := hr_1
  refine lv_istore_n (lv' := [(3, .int r_1), (0, .ref (w 0)), (1, .int r), (2, .int x)]) hx hb dX6_sourceFor_5 rfl hl (by decide) rfl (fun ls hl => ?_)
  refine lv_iload_n hx hb dX6_sourceFor_6 rfl (lv_at hl 0 rfl) ?_
  refine lv_iconst (v := (-1)) hx hb dX6_sourceFor_7 (by decide) ?_
  refine lv_icmp_eq (tgt := 23) hx hb dX6_sourceFor_8 (by decide) (fun c_2 => ?_) (fun c_2 => ?_)
  · have c_2 : r_1.toInt = -1 := ti_eq c_2
    have qc_2 : r_1 = (-1) := ti_of (show r_1.toInt = (-1) from by omega)
    refine lv_iconst (v := (-1)) hx hb dX6_sourceFor_23 (by decide) ?_
    exact W.iret (v := (-1)) hx hb hr (fun t ht hW => ⟨(-1), rfl, ⟨by decide, by decide⟩, ht⟩) (fun q h => by cases h) dX6_sourceFor_24
  · have c_2 : r_1.toInt ≠ -1 := ti_ne c_2
    refine lv_aload_n hx hb dX6_sourceFor_11 rfl (lv_at hl 1 rfl) ?_
    refine va_get (D := D) (ci := 5) (v := .int (y 7)) (C := RX6) (T := TX6) (N := 16) hx hb hts inlX6 hown hK hP 0 rfl rfl 7 (by decide) (hts _ mw_155) (fun _ h9 => h9) rfl dX6_sourceFor_12 ?_
    refine lv_iload_n hx hb dX6_sourceFor_15 rfl (lv_at hl 0 rfl) ?_
    refine kSN_i (As := [.int (y 7), .int r_1]) (rest := []) ⟨hx, hb, hml, hown, hts⟩ (s_T_bit l D k (y 7) r_1) mw_370 mw_2 mw_369 (host := "ThatchNext") (List.mem_of_getElem? (i := 9) rfl) hd_yX7_bit rfl rfl ⟨Nat.le_of_ble_eq_true rfl, Nat.le_of_ble_eq_true rfl⟩ hK hN0 (hP.sub [] rfl) rfl hl.1 rfl (Nat.le_of_ble_eq_true rfl) dX6_sourceFor_16 ⟨Nat.le_of_ble_eq_true rfl, Nat.le_of_ble_eq_true rfl⟩ (fun r_3 hr_3 => ?_)
    have hr_3 : 0 ≤ r_3.toInt ∧ r_3.toInt ≤ 1 := hr_3
    refine lv_iconst (v := 1) hx hb dX6_sourceFor_19 (by decide) ?_
    refine lv_icmp_ne (tgt := 25) hx hb dX6_sourceFor_20 (by decide) (fun c_4 => ?_) (fun c_4 => ?_)
    · have c_4 : r_3.toInt ≠ 1 := ti_ne c_4
      have qc_4 : r_3 = 0 := ti_of (show r_3.toInt = 0 from by omega)
      refine lv_iload_n hx hb dX6_sourceFor_25 rfl (lv_at hl 3 rfl) ?_
      refine lv_iload_n hx hb dX6_sourceFor_26 rfl (lv_at hl 0 rfl) ?_
      refine kSN_i (As := [.int x, .int r_1]) (rest := []) ⟨hx, hb, hml, hown, hts⟩ (s_T_bit l D k x r_1) mw_370 mw_2 mw_369 (host := "ThatchNext") (List.mem_of_getElem? (i := 9) rfl) hd_yX7_bit rfl rfl ⟨Nat.le_of_ble_eq_true rfl, Nat.le_of_ble_eq_true rfl⟩ hK hN0 (hP.sub [] rfl) rfl hl.1 rfl (Nat.le_of_ble_eq_true rfl) dX6_sourceFor_27 ⟨Nat.le_of_ble_eq_true rfl, Nat.le_of_ble_eq_true rfl⟩ (fun r_5 hr_5 => ?_)
      have hr_5 : 0 ≤ r_5.toInt ∧ r_5.toInt ≤ 1 := hr_5
      refine lv_iconst (v := 1) hx hb dX6_sourceFor_30 (by decide) ?_
      refine lv_icmp_ne (tgt := 38) hx hb dX6_sourceFor_31 (by decide) (fun c_6 => ?_) (fun c_6 => ?_)
      · have c_6 : r_5.toInt ≠ 1 := ti_ne c_6
        have qc_6 : r_5 = 0 := ti_of (show r_5.toInt = 0 from by omega)
        refine lv_iload_n hx hb dX6_sourceFor_38 rfl (lv_at hl 0 rfl) ?_
        exact W.iret (v := r_1) hx hb hr (fun t ht hW => ⟨r_1, rfl, ⟨by omega, by omega⟩, ht⟩) (fun q h => by cases h) dX6_sourceFor_39
      · have c_6 : r_5.toInt = 1 := ti_eq c_6
        have qc_6 : r_5 = 1 := ti_of (show r_5.toInt = 1 from by omega)
        refine lv_iload_n hx hb dX6_sourceFor_34 rfl (lv_at hl 2 rfl) ?_
        refine lv_goto (tgt := 39) hx hb dX6_sourceFor_35 (by decide) ?_
        exact W.iret (v := r) hx hb hr (fun t ht hW => ⟨r, rfl, ⟨by omega, by omega⟩, ht⟩) (fun q h => by cases h) dX6_sourceFor_39
    · have c_4 : r_3.toInt = 1 := ti_eq c_4
      have qc_4 : r_3 = 1 := ti_of (show r_3.toInt = 1 from by omega)
      refine lv_iconst (v := (-1)) hx hb dX6_sourceFor_23 (by decide) ?_
      exact W.iret (v := (-1)) hx hb hr (fun t ht hW => ⟨(-1), rfl, ⟨by decide, by decide⟩, ht⟩) (fun q h => by cases h) dX6_sourceFor_24
set_option maxHeartbeats 4000000 in
set_option maxRecDepth 100000 in
theorem s_W_placeNextYear (l : Launch) (D : va_G) (k : Nat → ClassId) (w : Nat → Nat) (y : Nat → Int32) (x : Int32) (w_h0 : 0 ≤ (y 0).toInt ∧ (y 0).toInt ≤ 10) (w_h2 : 0 ≤ (y 2).toInt ∧ (y 2).toInt ≤ 6) (w_h6 : 0 ≤ (y 6).toInt ∧ (y 6).toInt ≤ 1) : Met l yX6_placeNextYear (Cond.code yX6_placeNextYear cX6_placeNextYear 4 (some .int) :: wsL_law) ({ frames := 1, cells := 0, slots := 0, locals := 60 } : Room) (va_Pc [.ref (w 0), .int x] (pr D k [((w 0), .inr (5, [.int (y 0), .int (y 1), .int (y 2), .int (y 3), .int (y 4), .int (y 5), .int (y 6), .int (y 7), .int (y 8), .int (y 9), .int (y 10), .ref (w 1), .ref (w 2), .ref (w 3), .ref (w 4), .ref (w 5)]))])) (vp_Si (fun rr => True)) 0 0 (fun _ => False) := by
  refine Met.ofW (cc := cX6_placeNextYear) (maxL := 4) (ret := (some .int)) (by decide) rfl ?_
  intro p e s m args below meth c s₁ B hml hv
  obtain ⟨rfl, hP, hK, hN0⟩ := hv
  have hx := B.exec
  have hb := B.bytes
  have hr := B.returns
  have hts : ∀ w ∈ wsL_law, w.before _ s = true := fun w h => atoms_spec (ws := Cond.code yX6_placeNextYear cX6_placeNextYear 4 (some .int) :: wsL_law) B.pre w (List.mem_cons_of_mem _ h)
  have hown : s.vm.findClass RX6 = some m.cls := findClass_of_methodNamed B.named
  have hlocks := B.notSynchronized
  have hP : va_P D vwCl [((w 0), .inr (5, [.int (y 0), .int (y 1), .int (y 2), .int (y 3), .int (y 4), .int (y 5), .int (y 6), .int (y 7), .int (y 8), .int (y 9), .int (y 10), .ref (w 1), .ref (w 2), .ref (w 3), .ref (w 4), .ref (w 5)]))] s.heap := hP
  have hl := lv_entry ([.ref (w 0), .int x]) (n := 4) (Nat.le_of_ble_eq_true rfl)
  rw [lg_entry_eq]
  generalize (lg_sl ([.ref (w 0), .int x]) ++ List.replicate (4 - (lg_sl ([.ref (w 0), .int x])).length) Slot.unset).toArray = ls at hl ⊢
  have hl : lv_has ls 4 [(0, .ref (w 0)), (1, .int x)] := hl
  refine lv_aload_n hx hb dX6_placeNextYear_0 rfl (lv_at hl 0 rfl) ?_
  refine lv_iload_n hx hb dX6_placeNextYear_1 rfl (lv_at hl 1 rfl) ?_
  refine lv_bipush (v := 10) hx hb dX6_placeNextYear_2 (by decide) ?_
  refine lv_idiv hx hb dX6_placeNextYear_4 (by decide) ?_
  refine lv_topi (fun z_1 ez_1 => ?_)
  refine kV_i (q0 := 0) (As := [.int z_1]) (rest := []) ⟨hx, hb, hml, hown, hts⟩ (s_W_takerOf l D k _ y z_1 (show 0 ≤ (y 0).toInt ∧ (y 0).toInt ≤ 10 from ⟨by omega, by omega⟩) (show 0 ≤ (y 2).toInt ∧ (y 2).toInt ≤ 6 from ⟨by omega, by omega⟩) (show 0 ≤ (y 6).toInt ∧ (y 6).toInt ≤ 1 from ⟨by omega, by omega⟩)) (gV mw_867 mw_868 mw_869 mw_19 mw_870) hd_yX6_takerOf rfl rfl ⟨Nat.le_of_ble_eq_true rfl, Nat.le_of_ble_eq_true rfl⟩ hK hN0 (hP.sub [0] rfl) rfl rfl rfl rfl hl.1 rfl (Nat.le_of_ble_eq_true rfl) dX6_placeNextYear_5 ⟨Nat.le_of_ble_eq_true rfl, Nat.le_of_ble_eq_true rfl⟩ (fun r_2 hr_2 => ?_)
  refine lv_istore_n (lv' := [(2, .int r_2), (0, .ref (w 0)), (1, .int x)]) hx hb dX6_placeNextYear_8 rfl hl (by decide) rfl (fun ls hl => ?_)
  refine lv_iload_n hx hb dX6_placeNextYear_9 rfl (lv_at hl 2 rfl) ?_
  refine lv_bipush (v := 10) hx hb dX6_placeNextYear_10 (by decide) ?_
  refine lv_irem hx hb dX6_placeNextYear_12 (by decide) ?_
  refine lv_topi (fun z_3 ez_3 => ?_)
  refine lv_iconst (v := 1) hx hb dX6_placeNextYear_13 (by decide) ?_
  refine lv_iadd hx hb dX6_placeNextYear_14 ?_
  refine lv_topi (fun z_4 ez_4 => ?_)
  refine lv_istore_n (lv' := [(3, .int z_4), (2, .int r_2), (0, .ref (w 0)), (1, .int x)]) hx hb dX6_placeNextYear_15 rfl hl (by decide) rfl (fun ls hl => ?_)
  refine lv_iload_n hx hb dX6_placeNextYear_16 rfl (lv_at hl 1 rfl) ?_
  refine lv_iconst (v := (-1)) hx hb dX6_placeNextYear_17 (by decide) ?_
  refine lv_icmp_eq (tgt := 41) hx hb dX6_placeNextYear_18 (by decide) (fun c_5 => ?_) (fun c_5 => ?_)
  · have c_5 : r_2.toInt = -1 := ti_eq c_5
    have qc_5 : r_2 = (-1) := ti_of (show r_2.toInt = (-1) from by omega)
    refine lv_iconst (v := (-1)) hx hb dX6_placeNextYear_41 (by decide) ?_
    exact W.iret (v := (-1)) hx hb hr (fun t ht hW => ⟨(-1), rfl, trivial, ht⟩) (fun q h => by cases h) dX6_placeNextYear_42
  · have c_5 : r_2.toInt ≠ -1 := ti_ne c_5
    refine lv_aload_n hx hb dX6_placeNextYear_21 rfl (lv_at hl 2 rfl) ?_
    refine va_get (D := D) (ci := 5) (v := .int (y 7)) (C := RX6) (T := TX6) (N := 16) hx hb hts inlX6 hown hK hP 0 rfl rfl 7 (by decide) (hts _ mw_155) (fun _ h9 => h9) rfl dX6_placeNextYear_22 ?_
    refine lv_iload_n hx hb dX6_placeNextYear_25 rfl (lv_at hl 1 rfl) ?_
    refine kSN_i (As := [.int (y 7), .int r_2]) (rest := []) ⟨hx, hb, hml, hown, hts⟩ (s_T_bit l D k (y 7) r_2) mw_370 mw_2 mw_369 (host := "ThatchNext") (List.mem_of_getElem? (i := 9) rfl) hd_yX7_bit rfl rfl ⟨Nat.le_of_ble_eq_true rfl, Nat.le_of_ble_eq_true rfl⟩ hK hN0 (hP.sub [] rfl) rfl hl.1 rfl (Nat.le_of_ble_eq_true rfl) dX6_placeNextYear_26 ⟨Nat.le_of_ble_eq_true rfl, Nat.le_of_ble_eq_true rfl⟩ (fun r_6 hr_6 => ?_)
    have hr_6 : 0 ≤ r_6.toInt ∧ r_6.toInt ≤ 1 := hr_6
    refine lv_iconst (v := 1) hx hb dX6_placeNextYear_29 (by decide) ?_
    refine lv_icmp_eq (tgt := 41) hx hb dX6_placeNextYear_30 (by decide) (fun c_7 => ?_) (fun c_7 => ?_)
    · have c_7 : r_6.toInt = 1 := ti_eq c_7
      have qc_7 : r_6 = 1 := ti_of (show r_6.toInt = 1 from by omega)
      refine lv_iconst (v := (-1)) hx hb dX6_placeNextYear_41 (by decide) ?_
      exact W.iret (v := (-1)) hx hb hr (fun t ht hW => ⟨(-1), rfl, trivial, ht⟩) (fun q h => by cases h) dX6_placeNextYear_42
    · have c_7 : r_6.toInt ≠ 1 := ti_ne c_7
      have qc_7 : r_6 = 0 := ti_of (show r_6.toInt = 0 from by omega)
      refine lv_iload_n hx hb dX6_placeNextYear_33 rfl (lv_at hl 0 rfl) ?_
      refine lv_aload_n hx hb dX6_placeNextYear_34 rfl (lv_at hl 2 rfl) ?_
      refine va_get (D := D) (ci := 5) (v := .int (y 2)) (C := RX6) (T := TX6) (N := 16) hx hb hts inlX6 hown hK hP 0 rfl rfl 2 (by decide) (hts _ mw_54) (fun _ h9 => h9) rfl dX6_placeNextYear_35 ?_
      refine lv_icmp_lt (tgt := 43) hx hb dX6_placeNextYear_38 (by decide) (fun c_8 => ?_) (fun c_8 => ?_)
      · have c_8 : z_4.toInt < (y 2).toInt := ti_lt c_8
        refine lv_bipush (v := 10) hx hb dX6_placeNextYear_43 (by decide) ?_
        refine lv_iload_n hx hb dX6_placeNextYear_45 rfl (lv_at hl 1 rfl) ?_
        refine lv_imul hx hb dX6_placeNextYear_46 ?_
        refine lv_topi (fun z_9 ez_9 => ?_)
        refine lv_iload_n hx hb dX6_placeNextYear_47 rfl (lv_at hl 0 rfl) ?_
        refine lv_iadd hx hb dX6_placeNextYear_48 ?_
        refine lv_topi (fun z_10 ez_10 => ?_)
        exact W.iret (v := z_10) hx hb hr (fun t ht hW => ⟨z_10, rfl, trivial, ht⟩) (fun q h => by cases h) dX6_placeNextYear_49
      · have c_8 : (y 2).toInt ≤ z_4.toInt := ti_nlt c_8
        refine lv_iconst (v := (-1)) hx hb dX6_placeNextYear_41 (by decide) ?_
        exact W.iret (v := (-1)) hx hb hr (fun t ht hW => ⟨(-1), rfl, trivial, ht⟩) (fun q h => by cases h) dX6_placeNextYear_42
set_option maxHeartbeats 4000000 in
set_option maxRecDepth 100000 in
theorem s_W_roofsVisited (l : Launch) (D : va_G) (k : Nat → ClassId) (w : Nat → Nat) (y : Nat → Int32) (r : Int32) (d : Int32) (x : Int32) (w_h0 : 0 ≤ (y 0).toInt ∧ (y 0).toInt ≤ 10) (w_h2 : 0 ≤ (y 2).toInt ∧ (y 2).toInt ≤ 6) (w_h6 : 0 ≤ (y 6).toInt ∧ (y 6).toInt ≤ 1) (hx0 : x.toInt ≤ 8) : Met l yX6_roofsVisited (Cond.code yX6_roofsVisited cX6_roofsVisited 7 (some .int) :: wsL_law) ({ frames := 2, cells := 0, slots := 0, locals := 120 } : Room) (va_Pc [.ref (w 0), .int r, .int d, .int x] (pr D k [((w 0), .inr (5, [.int (y 0), .int (y 1), .int (y 2), .int (y 3), .int (y 4), .int (y 5), .int (y 6), .int (y 7), .int (y 8), .int (y 9), .int (y 10), .ref (w 1), .ref (w 2), .ref (w 3), .ref (w 4), .ref (w 5)]))])) (vp_Si (fun rr => True)) 0 0 (fun _ => False) := by
  refine Met.ofW (cc := cX6_roofsVisited) (maxL := 7) (ret := (some .int)) (by decide) rfl ?_
  intro p e s m args below meth c s₁ B hml hv
  obtain ⟨rfl, hP, hK, hN0⟩ := hv
  have hx := B.exec
  have hb := B.bytes
  have hr := B.returns
  have hts : ∀ w ∈ wsL_law, w.before _ s = true := fun w h => atoms_spec (ws := Cond.code yX6_roofsVisited cX6_roofsVisited 7 (some .int) :: wsL_law) B.pre w (List.mem_cons_of_mem _ h)
  have hown : s.vm.findClass RX6 = some m.cls := findClass_of_methodNamed B.named
  have hlocks := B.notSynchronized
  have hP : va_P D vwCl [((w 0), .inr (5, [.int (y 0), .int (y 1), .int (y 2), .int (y 3), .int (y 4), .int (y 5), .int (y 6), .int (y 7), .int (y 8), .int (y 9), .int (y 10), .ref (w 1), .ref (w 2), .ref (w 3), .ref (w 4), .ref (w 5)]))] s.heap := hP
  have hl := lv_entry ([.ref (w 0), .int r, .int d, .int x]) (n := 7) (Nat.le_of_ble_eq_true rfl)
  rw [lg_entry_eq]
  generalize (lg_sl ([.ref (w 0), .int r, .int d, .int x]) ++ List.replicate (7 - (lg_sl ([.ref (w 0), .int r, .int d, .int x])).length) Slot.unset).toArray = ls at hl ⊢
  have hl : lv_has ls 7 [(0, .ref (w 0)), (1, .int r), (2, .int d), (3, .int x)] := hl
  refine lv_bipush (v := 10) hx hb dX6_roofsVisited_0 (by decide) ?_
  refine lv_iload_n hx hb dX6_roofsVisited_2 rfl (lv_at hl 1 rfl) ?_
  refine lv_imul hx hb dX6_roofsVisited_3 ?_
  refine lv_topi (fun z_1 ez_1 => ?_)
  refine lv_iload_n hx hb dX6_roofsVisited_4 rfl (lv_at hl 2 rfl) ?_
  refine lv_iadd hx hb dX6_roofsVisited_5 ?_
  refine lv_topi (fun z_2 ez_2 => ?_)
  refine lv_istore (lv' := [(4, .int z_2), (0, .ref (w 0)), (1, .int r), (2, .int d), (3, .int x)]) hx hb dX6_roofsVisited_6 hl (by decide) rfl (fun ls hl => ?_)
  refine lv_iconst (v := 0) hx hb dX6_roofsVisited_8 (by decide) ?_
  refine lv_istore (lv' := [(5, .int 0), (4, .int z_2), (0, .ref (w 0)), (1, .int r), (2, .int d), (3, .int x)]) hx hb dX6_roofsVisited_9 hl (by decide) rfl (fun ls hl => ?_)
  refine lv_iconst (v := 0) hx hb dX6_roofsVisited_11 (by decide) ?_
  refine lv_istore (lv' := [(6, .int 0), (5, .int 0), (4, .int z_2), (0, .ref (w 0)), (1, .int r), (2, .int d), (3, .int x)]) hx hb dX6_roofsVisited_12 hl (by decide) rfl (fun ls hl => ?_)
  refine W_loop (σ := Int32 × Int32 × Int32) (fun xx H locs ls => (0 ≤ xx.1.toInt ∧ xx.1.toInt ≤ 8) ∧ va_P D vwCl [((w 0), .inr (5, [.int (y 0), .int (y 1), .int (y 2), .int (y 3), .int (y 4), .int (y 5), .int (y 6), .int (y 7), .int (y 8), .int (y 9), .int (y 10), .ref (w 1), .ref (w 2), .ref (w 3), .ref (w 4), .ref (w 5)]))] H ∧ H = s.heap ∧ locs = [] ∧ lv_has ls 7 [(6, .int xx.1), (5, .int xx.2.1), (4, .int xx.2.2), (0, .ref (w 0)), (1, .int r), (2, .int d), (3, .int x)]) (fun xx => (8 - xx.1.toInt).toNat) ?_ (0, 0, z_2) _ _ ls ⟨(show 0 ≤ (0 : Int32).toInt ∧ (0 : Int32).toInt ≤ 8 from ⟨by decide, by decide⟩), hP.sub [0] rfl, rfl, rfl, lv_sub hl [0, 1, 2, 3, 4, 5, 6] rfl⟩
  intro xx H locs ls hI ih14
  obtain ⟨i_3, y_4, y_5⟩ := xx
  obtain ⟨h_6, hP, rfl, rfl, hl⟩ := hI
  have h_6 : 0 ≤ i_3.toInt ∧ i_3.toInt ≤ 8 := h_6
  obtain ⟨h_6a, h_6b⟩ := h_6
  have hP : va_P D vwCl [((w 0), .inr (5, [.int (y 0), .int (y 1), .int (y 2), .int (y 3), .int (y 4), .int (y 5), .int (y 6), .int (y 7), .int (y 8), .int (y 9), .int (y 10), .ref (w 1), .ref (w 2), .ref (w 3), .ref (w 4), .ref (w 5)]))] s.heap := hP
  have hl : lv_has ls 7 [(6, .int i_3), (5, .int y_4), (4, .int y_5), (0, .ref (w 0)), (1, .int r), (2, .int d), (3, .int x)] := hl
  refine lv_iload hx hb dX6_roofsVisited_14 (lv_at hl 0 rfl) ?_
  refine lv_iload_n hx hb dX6_roofsVisited_16 rfl (lv_at hl 6 rfl) ?_
  refine lv_icmp_ge (tgt := 54) hx hb dX6_roofsVisited_17 (by decide) (fun c_7 => ?_) (fun c_7 => ?_)
  · have c_7 : x.toInt ≤ i_3.toInt := ti_le c_7
    refine lv_iload hx hb dX6_roofsVisited_54 (lv_at hl 1 rfl) ?_
    exact W.iret (v := y_4) hx hb hr (fun t ht hW => ⟨y_4, rfl, trivial, ht⟩) (fun q h => by cases h) dX6_roofsVisited_56
  · have c_7 : i_3.toInt < x.toInt := ti_nle c_7
    refine lv_aload_n hx hb dX6_roofsVisited_20 rfl (lv_at hl 3 rfl) ?_
    refine lv_iload hx hb dX6_roofsVisited_21 (lv_at hl 2 rfl) ?_
    refine kV_i (q0 := 0) (As := [.int y_5]) (rest := []) ⟨hx, hb, hml, hown, hts⟩ (s_W_placeNextYear l D k _ y y_5 (show 0 ≤ (y 0).toInt ∧ (y 0).toInt ≤ 10 from ⟨by omega, by omega⟩) (show 0 ≤ (y 2).toInt ∧ (y 2).toInt ≤ 6 from ⟨by omega, by omega⟩) (show 0 ≤ (y 6).toInt ∧ (y 6).toInt ≤ 1 from ⟨by omega, by omega⟩)) (gV mw_863 mw_864 mw_865 mw_19 mw_866) hd_yX6_placeNextYear rfl rfl ⟨Nat.le_of_ble_eq_true rfl, Nat.le_of_ble_eq_true rfl⟩ hK hN0 (hP.sub [0] rfl) rfl rfl rfl rfl hl.1 rfl (Nat.le_of_ble_eq_true rfl) dX6_roofsVisited_23 ⟨Nat.le_of_ble_eq_true rfl, Nat.le_of_ble_eq_true rfl⟩ (fun r_8 hr_8 => ?_)
    refine lv_istore (lv' := [(4, .int r_8), (6, .int i_3), (5, .int y_4), (0, .ref (w 0)), (1, .int r), (2, .int d), (3, .int x)]) hx hb dX6_roofsVisited_26 hl (by decide) rfl (fun ls hl => ?_)
    refine lv_iload hx hb dX6_roofsVisited_28 (lv_at hl 0 rfl) ?_
    refine lv_iconst (v := (-1)) hx hb dX6_roofsVisited_30 (by decide) ?_
    refine lv_icmp_ne (tgt := 36) hx hb dX6_roofsVisited_31 (by decide) (fun c_9 => ?_) (fun c_9 => ?_)
    · have c_9 : r_8.toInt ≠ -1 := ti_ne c_9
      refine lv_iload hx hb dX6_roofsVisited_36 (lv_at hl 2 rfl) ?_
      refine lv_iconst (v := 1) hx hb dX6_roofsVisited_38 (by decide) ?_
      refine lv_iload hx hb dX6_roofsVisited_39 (lv_at hl 0 rfl) ?_
      refine lv_bipush (v := 10) hx hb dX6_roofsVisited_41 (by decide) ?_
      refine lv_idiv hx hb dX6_roofsVisited_43 (by decide) ?_
      refine lv_topi (fun z_10 ez_10 => ?_)
      refine lv_ishl hx hb dX6_roofsVisited_44 ?_
      refine lv_topi (fun z_11 ez_11 => ?_)
      refine lv_ior hx hb dX6_roofsVisited_45 ?_
      refine lv_topi (fun z_12 ez_12 => ?_)
      refine lv_istore (lv' := [(5, .int z_12), (4, .int r_8), (6, .int i_3), (0, .ref (w 0)), (1, .int r), (2, .int d), (3, .int x)]) hx hb dX6_roofsVisited_46 hl (by decide) rfl (fun ls hl => ?_)
      obtain ⟨z_13, ez_13⟩ : ∃ y : Int32, y = i_3 + 1 := ⟨_, rfl⟩
      have tz_13 : z_13.toInt = i_3.toInt + 1 := by rw [ez_13]; exact ti_addc (by decide) (by omega) (by omega)
      refine lv_iinc (v := z_13) (lv' := [(6, .int z_13), (5, .int z_12), (4, .int r_8), (0, .ref (w 0)), (1, .int r), (2, .int d), (3, .int x)]) hx hb dX6_roofsVisited_48 hl (k := 2) rfl (ez_13.symm) (by decide) rfl (fun ls hl => ?_)
      refine lv_goto (tgt := 14) hx hb dX6_roofsVisited_51 (by decide) ?_
      exact ih14 (z_13, z_12, r_8) _ _ ls (by show (8 - z_13.toInt).toNat < (8 - i_3.toInt).toNat; omega) ⟨(show 0 ≤ z_13.toInt ∧ z_13.toInt ≤ 8 from ⟨by omega, by omega⟩), hP.sub [0] rfl, rfl, rfl, lv_sub hl [0, 1, 2, 3, 4, 5, 6] rfl⟩
    · have c_9 : r_8.toInt = -1 := ti_eq c_9
      have qc_9 : r_8 = (-1) := ti_of (show r_8.toInt = (-1) from by omega)
      refine lv_iconst (v := 0) hx hb dX6_roofsVisited_34 (by decide) ?_
      exact W.iret (v := 0) hx hb hr (fun t ht hW => ⟨0, rfl, trivial, ht⟩) (fun q h => by cases h) dX6_roofsVisited_35
