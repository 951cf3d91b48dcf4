theorem dX6_isRoof_0 : decode cX6_isRoof 0 = .ok (.iload_n 1, 1) := by decide +kernel
theorem dX6_isRoof_1 : decode cX6_isRoof 1 = .ok (.ifCond .lt 15, 3) := by decide +kernel
theorem dX6_isRoof_16 : decode cX6_isRoof 16 = .ok (.iconst 0, 1) := by decide +kernel
theorem dX6_isRoof_17 : decode cX6_isRoof 17 = .ok (.ireturn, 1) := by decide +kernel
theorem dX6_isRoof_4 : decode cX6_isRoof 4 = .ok (.iload_n 1, 1) := by decide +kernel
theorem dX6_isRoof_5 : decode cX6_isRoof 5 = .ok (.aload_n 0, 1) := by decide +kernel
theorem dX6_isRoof_6 : decode cX6_isRoof 6 = .ok (.getfield 40, 3) := by decide +kernel
theorem mw_152 : Cond.fieldLink RX6 40 "ThatchNext$World" "roofs" "I" ∈ wsL_law := List.mem_of_getElem? (i := 152) (by decide +kernel)
theorem dX6_isRoof_9 : decode cX6_isRoof 9 = .ok (.if_icmp .ge 7, 3) := by decide +kernel
theorem dX6_allRoofs_0 : decode cX6_allRoofs 0 = .ok (.iconst 1, 1) := by decide +kernel
theorem dX6_allRoofs_1 : decode cX6_allRoofs 1 = .ok (.aload_n 0, 1) := by decide +kernel
theorem dX6_allRoofs_2 : decode cX6_allRoofs 2 = .ok (.getfield 40, 3) := by decide +kernel
theorem dX6_allRoofs_5 : decode cX6_allRoofs 5 = .ok (.ishl, 1) := by decide +kernel
theorem dX6_allRoofs_6 : decode cX6_allRoofs 6 = .ok (.iconst 1, 1) := by decide +kernel
theorem dX6_allRoofs_7 : decode cX6_allRoofs 7 = .ok (.isub, 1) := by decide +kernel
theorem dX6_allRoofs_8 : decode cX6_allRoofs 8 = .ok (.ireturn, 1) := by decide +kernel
theorem dX6_thatched_0 : decode cX6_thatched 0 = .ok (.aload_n 0, 1) := by decide +kernel
theorem dX6_thatched_1 : decode cX6_thatched 1 = .ok (.invokevirtual 68, 3) := by decide +kernel
theorem hd_yX6_allRoofs : HD yX6_allRoofs RX6 0 := by decide +kernel
theorem mw_474 : Cond.methodLink RX6 68 yX6_allRoofs ∈ wsL_law := List.mem_of_getElem? (i := 474) (by decide +kernel)
theorem mw_475 : Cond.instanceMethod yX6_allRoofs ∈ wsL_law := List.mem_of_getElem? (i := 475) (by decide +kernel)
theorem mw_476 : Cond.selects RX6 yX6_allRoofs yX6_allRoofs ∈ wsL_law := List.mem_of_getElem? (i := 476) (by decide +kernel)
theorem mw_19 : Cond.initialized RX6 ∈ wsL_law := List.mem_of_getElem? (i := 19) (by decide +kernel)
theorem mw_477 : Cond.code yX6_allRoofs cX6_allRoofs 1 (some .int) ∈ wsL_law := List.mem_of_getElem? (i := 477) (by decide +kernel)
theorem dX6_thatched_4 : decode cX6_thatched 4 = .ok (.aload_n 0, 1) := by decide +kernel
theorem dX6_thatched_5 : decode cX6_thatched 5 = .ok (.getfield 50, 3) := by decide +kernel
theorem mw_155 : Cond.fieldLink RX6 50 "ThatchNext$World" "slates" "I" ∈ wsL_law := List.mem_of_getElem? (i := 155) (by decide +kernel)
theorem dX6_thatched_8 : decode cX6_thatched 8 = .ok (.iconst (-1), 1) := by decide +kernel
theorem dX6_thatched_9 : decode cX6_thatched 9 = .ok (.ixor, 1) := by decide +kernel
theorem dX6_thatched_10 : decode cX6_thatched 10 = .ok (.iand, 1) := by decide +kernel
theorem dX6_thatched_11 : decode cX6_thatched 11 = .ok (.ireturn, 1) := by decide +kernel
theorem dX6_leaking_0 : decode cX6_leaking 0 = .ok (.iconst 0, 1) := by decide +kernel
theorem dX6_leaking_1 : decode cX6_leaking 1 = .ok (.istore_n 1, 1) := by decide +kernel
theorem dX6_leaking_2 : decode cX6_leaking 2 = .ok (.iconst 0, 1) := by decide +kernel
theorem dX6_leaking_3 : decode cX6_leaking 3 = .ok (.istore_n 2, 1) := by decide +kernel
theorem dX6_leaking_4 : decode cX6_leaking 4 = .ok (.iload_n 2, 1) := by decide +kernel
theorem dX6_leaking_5 : decode cX6_leaking 5 = .ok (.aload_n 0, 1) := by decide +kernel
theorem dX6_leaking_6 : decode cX6_leaking 6 = .ok (.getfield 40, 3) := by decide +kernel
theorem dX6_leaking_9 : decode cX6_leaking 9 = .ok (.if_icmp .ge 48, 3) := by decide +kernel
theorem dX6_leaking_57 : decode cX6_leaking 57 = .ok (.iload_n 1, 1) := by decide +kernel
theorem dX6_leaking_58 : decode cX6_leaking 58 = .ok (.ireturn, 1) := by decide +kernel
theorem dX6_miceInAll_0 : decode cX6_miceInAll 0 = .ok (.iconst 0, 1) := by decide +kernel
theorem dX6_miceInAll_1 : decode cX6_miceInAll 1 = .ok (.istore_n 1, 1) := by decide +kernel
theorem dX6_miceInAll_2 : decode cX6_miceInAll 2 = .ok (.iconst 0, 1) := by decide +kernel
theorem dX6_miceInAll_3 : decode cX6_miceInAll 3 = .ok (.istore_n 2, 1) := by decide +kernel
theorem dX6_miceInAll_4 : decode cX6_miceInAll 4 = .ok (.iload_n 2, 1) := by decide +kernel
theorem dX6_miceInAll_5 : decode cX6_miceInAll 5 = .ok (.aload_n 0, 1) := by decide +kernel
theorem dX6_miceInAll_6 : decode cX6_miceInAll 6 = .ok (.getfield 40, 3) := by decide +kernel
theorem dX6_miceInAll_9 : decode cX6_miceInAll 9 = .ok (.if_icmp .ge 17, 3) := by decide +kernel
theorem dX6_miceInAll_26 : decode cX6_miceInAll 26 = .ok (.iload_n 1, 1) := by decide +kernel
theorem dX6_miceInAll_27 : decode cX6_miceInAll 27 = .ok (.ireturn, 1) := by decide +kernel
theorem dX6_sparksInAll_0 : decode cX6_sparksInAll 0 = .ok (.iconst 0, 1) := by decide +kernel
theorem dX6_sparksInAll_1 : decode cX6_sparksInAll 1 = .ok (.istore_n 1, 1) := by decide +kernel
theorem dX6_sparksInAll_2 : decode cX6_sparksInAll 2 = .ok (.iconst 0, 1) := by decide +kernel
theorem dX6_sparksInAll_3 : decode cX6_sparksInAll 3 = .ok (.istore_n 2, 1) := by decide +kernel
theorem dX6_sparksInAll_4 : decode cX6_sparksInAll 4 = .ok (.iload_n 2, 1) := by decide +kernel
theorem dX6_sparksInAll_5 : decode cX6_sparksInAll 5 = .ok (.aload_n 0, 1) := by decide +kernel
theorem dX6_sparksInAll_6 : decode cX6_sparksInAll 6 = .ok (.getfield 40, 3) := by decide +kernel
theorem dX6_sparksInAll_9 : decode cX6_sparksInAll 9 = .ok (.if_icmp .ge 17, 3) := by decide +kernel
theorem dX6_sparksInAll_26 : decode cX6_sparksInAll 26 = .ok (.iload_n 1, 1) := by decide +kernel
theorem dX6_sparksInAll_27 : decode cX6_sparksInAll 27 = .ok (.ireturn, 1) := by decide +kernel
theorem dX6_layersInAll_0 : decode cX6_layersInAll 0 = .ok (.iconst 0, 1) := by decide +kernel
theorem dX6_layersInAll_1 : decode cX6_layersInAll 1 = .ok (.istore_n 1, 1) := by decide +kernel
theorem dX6_layersInAll_2 : decode cX6_layersInAll 2 = .ok (.iconst 0, 1) := by decide +kernel
theorem dX6_layersInAll_3 : decode cX6_layersInAll 3 = .ok (.istore_n 2, 1) := by decide +kernel
theorem dX6_layersInAll_4 : decode cX6_layersInAll 4 = .ok (.iload_n 2, 1) := by decide +kernel
theorem dX6_layersInAll_5 : decode cX6_layersInAll 5 = .ok (.aload_n 0, 1) := by decide +kernel
theorem dX6_layersInAll_6 : decode cX6_layersInAll 6 = .ok (.getfield 40, 3) := by decide +kernel
theorem dX6_layersInAll_9 : decode cX6_layersInAll 9 = .ok (.if_icmp .ge 18, 3) := by decide +kernel
theorem dX6_layersInAll_27 : decode cX6_layersInAll 27 = .ok (.iload_n 1, 1) := by decide +kernel
theorem dX6_layersInAll_28 : decode cX6_layersInAll 28 = .ok (.ireturn, 1) := by decide +kernel
theorem dX6_laidInAll_0 : decode cX6_laidInAll 0 = .ok (.iconst 0, 1) := by decide +kernel
theorem dX6_laidInAll_1 : decode cX6_laidInAll 1 = .ok (.istore_n 1, 1) := by decide +kernel
theorem dX6_laidInAll_2 : decode cX6_laidInAll 2 = .ok (.iconst 0, 1) := by decide +kernel
theorem dX6_laidInAll_3 : decode cX6_laidInAll 3 = .ok (.istore_n 2, 1) := by decide +kernel
theorem dX6_laidInAll_4 : decode cX6_laidInAll 4 = .ok (.iload_n 2, 1) := by decide +kernel
theorem dX6_laidInAll_5 : decode cX6_laidInAll 5 = .ok (.aload_n 0, 1) := by decide +kernel
theorem dX6_laidInAll_6 : decode cX6_laidInAll 6 = .ok (.getfield 40, 3) := by decide +kernel
theorem dX6_laidInAll_9 : decode cX6_laidInAll 9 = .ok (.if_icmp .ge 18, 3) := by decide +kernel
theorem dX6_laidInAll_27 : decode cX6_laidInAll 27 = .ok (.iload_n 1, 1) := by decide +kernel
theorem dX6_laidInAll_28 : decode cX6_laidInAll 28 = .ok (.ireturn, 1) := by decide +kernel
theorem dX6_wetInAll_0 : decode cX6_wetInAll 0 = .ok (.iconst 0, 1) := by decide +kernel
theorem dX6_wetInAll_1 : decode cX6_wetInAll 1 = .ok (.istore_n 1, 1) := by decide +kernel
theorem dX6_wetInAll_2 : decode cX6_wetInAll 2 = .ok (.iconst 0, 1) := by decide +kernel
theorem dX6_wetInAll_3 : decode cX6_wetInAll 3 = .ok (.istore_n 2, 1) := by decide +kernel
theorem dX6_wetInAll_4 : decode cX6_wetInAll 4 = .ok (.iload_n 2, 1) := by decide +kernel
theorem dX6_wetInAll_5 : decode cX6_wetInAll 5 = .ok (.aload_n 0, 1) := by decide +kernel
theorem dX6_wetInAll_6 : decode cX6_wetInAll 6 = .ok (.getfield 40, 3) := by decide +kernel
theorem dX6_wetInAll_9 : decode cX6_wetInAll 9 = .ok (.if_icmp .ge 47, 3) := by decide +kernel
theorem dX6_wetInAll_56 : decode cX6_wetInAll 56 = .ok (.iload_n 1, 1) := by decide +kernel
theorem dX6_wetInAll_57 : decode cX6_wetInAll 57 = .ok (.ireturn, 1) := by decide +kernel
theorem dX6_rainDown_0 : decode cX6_rainDown 0 = .ok (.iconst 0, 1) := by decide +kernel
theorem dX6_rainDown_1 : decode cX6_rainDown 1 = .ok (.istore_n 1, 1) := by decide +kernel
theorem dX6_rainDown_2 : decode cX6_rainDown 2 = .ok (.iconst 0, 1) := by decide +kernel
theorem dX6_rainDown_3 : decode cX6_rainDown 3 = .ok (.istore_n 2, 1) := by decide +kernel
theorem dX6_rainDown_4 : decode cX6_rainDown 4 = .ok (.iload_n 2, 1) := by decide +kernel
theorem dX6_rainDown_5 : decode cX6_rainDown 5 = .ok (.aload_n 0, 1) := by decide +kernel
theorem dX6_rainDown_6 : decode cX6_rainDown 6 = .ok (.getfield 40, 3) := by decide +kernel
theorem dX6_rainDown_9 : decode cX6_rainDown 9 = .ok (.if_icmp .ge 75, 3) := by decide +kernel
theorem dX6_rainDown_84 : decode cX6_rainDown 84 = .ok (.iload_n 1, 1) := by decide +kernel
theorem dX6_rainDown_85 : decode cX6_rainDown 85 = .ok (.ireturn, 1) := by decide +kernel
theorem dX6_placeOfSpark_0 : decode cX6_placeOfSpark 0 = .ok (.iconst 0, 1) := by decide +kernel
theorem dX6_placeOfSpark_1 : decode cX6_placeOfSpark 1 = .ok (.istore_n 2, 1) := by decide +kernel
theorem dX6_placeOfSpark_2 : decode cX6_placeOfSpark 2 = .ok (.iconst 0, 1) := by decide +kernel
theorem dX6_placeOfSpark_3 : decode cX6_placeOfSpark 3 = .ok (.istore_n 3, 1) := by decide +kernel
theorem dX6_placeOfSpark_4 : decode cX6_placeOfSpark 4 = .ok (.iload_n 3, 1) := by decide +kernel
theorem dX6_placeOfSpark_5 : decode cX6_placeOfSpark 5 = .ok (.aload_n 0, 1) := by decide +kernel
theorem dX6_placeOfSpark_6 : decode cX6_placeOfSpark 6 = .ok (.getfield 40, 3) := by decide +kernel
theorem dX6_placeOfSpark_9 : decode cX6_placeOfSpark 9 = .ok (.if_icmp .ge 58, 3) := by decide +kernel
theorem dX6_placeOfSpark_67 : decode cX6_placeOfSpark 67 = .ok (.iconst (-1), 1) := by decide +kernel
theorem dX6_placeOfSpark_68 : decode cX6_placeOfSpark 68 = .ok (.ireturn, 1) := by decide +kernel
theorem dX6_yearFault_0 : decode cX6_yearFault 0 = .ok (.lload_n 1, 1) := by decide +kernel
theorem dX6_yearFault_1 : decode cX6_yearFault 1 = .ok (.aload_n 0, 1) := by decide +kernel
theorem dX6_yearFault_2 : decode cX6_yearFault 2 = .ok (.invokevirtual 68, 3) := by decide +kernel
theorem dX6_yearFault_5 : decode cX6_yearFault 5 = .ok (.i2l, 1) := by decide +kernel
theorem dX6_yearFault_6 : decode cX6_yearFault 6 = .ok (.ldc2_w 118, 3) := by decide +kernel
theorem mw_473 : Cond.constantLong RX6 118 (-1) ∈ wsL_law := List.mem_of_getElem? (i := 473) (by decide +kernel)
theorem dX6_yearFault_9 : decode cX6_yearFault 9 = .ok (.lxor, 1) := by decide +kernel
theorem dX6_yearFault_10 : decode cX6_yearFault 10 = .ok (.land, 1) := by decide +kernel
theorem dX6_yearFault_11 : decode cX6_yearFault 11 = .ok (.lconst 0, 1) := by decide +kernel
theorem dX6_yearFault_12 : decode cX6_yearFault 12 = .ok (.lcmp, 1) := by decide +kernel
theorem dX6_yearFault_13 : decode cX6_yearFault 13 = .ok (.ifCond .eq 5, 3) := by decide +kernel
theorem dX6_yearFault_16 : decode cX6_yearFault 16 = .ok (.iconst 1, 1) := by decide +kernel
theorem dX6_yearFault_17 : decode cX6_yearFault 17 = .ok (.ireturn, 1) := by decide +kernel
theorem dX6_yearFault_18 : decode cX6_yearFault 18 = .ok (.lload_n 1, 1) := by decide +kernel
theorem dX6_yearFault_19 : decode cX6_yearFault 19 = .ok (.aload_n 0, 1) := by decide +kernel
theorem dX6_yearFault_20 : decode cX6_yearFault 20 = .ok (.getfield 50, 3) := by decide +kernel
theorem dX6_yearFault_23 : decode cX6_yearFault 23 = .ok (.i2l, 1) := by decide +kernel
theorem dX6_yearFault_24 : decode cX6_yearFault 24 = .ok (.land, 1) := by decide +kernel
theorem dX6_yearFault_25 : decode cX6_yearFault 25 = .ok (.lconst 0, 1) := by decide +kernel
theorem dX6_yearFault_26 : decode cX6_yearFault 26 = .ok (.lcmp, 1) := by decide +kernel
theorem dX6_yearFault_27 : decode cX6_yearFault 27 = .ok (.ifCond .eq 5, 3) := by decide +kernel
theorem dX6_yearFault_32 : decode cX6_yearFault 32 = .ok (.aload_n 0, 1) := by decide +kernel
theorem dX6_yearFault_33 : decode cX6_yearFault 33 = .ok (.getfield 43, 3) := by decide +kernel
theorem mw_153 : Cond.fieldLink RX6 43 "ThatchNext$World" "year" "I" ∈ wsL_law := List.mem_of_getElem? (i := 153) (by decide +kernel)
theorem dX6_yearFault_36 : decode cX6_yearFault 36 = .ok (.sipush 999, 3) := by decide +kernel
theorem dX6_yearFault_39 : decode cX6_yearFault 39 = .ok (.if_icmp .lt 7, 3) := by decide +kernel
theorem dX6_yearFault_46 : decode cX6_yearFault 46 = .ok (.iconst 0, 1) := by decide +kernel
theorem dX6_yearFault_47 : decode cX6_yearFault 47 = .ok (.ireturn, 1) := by decide +kernel
theorem dX6_maySkip_0 : decode cX6_maySkip 0 = .ok (.aload_n 0, 1) := by decide +kernel
theorem dX6_maySkip_1 : decode cX6_maySkip 1 = .ok (.iload_n 1, 1) := by decide +kernel
theorem dX6_maySkip_2 : decode cX6_maySkip 2 = .ok (.i2l, 1) := by decide +kernel
theorem dX6_maySkip_3 : decode cX6_maySkip 3 = .ok (.invokevirtual 120, 3) := by decide +kernel
theorem hd_yX6_yearFault : HD yX6_yearFault RX6 1 := by decide +kernel
theorem mw_469 : Cond.methodLink RX6 120 yX6_yearFault ∈ wsL_law := List.mem_of_getElem? (i := 469) (by decide +kernel)
theorem mw_470 : Cond.instanceMethod yX6_yearFault ∈ wsL_law := List.mem_of_getElem? (i := 470) (by decide +kernel)
theorem mw_471 : Cond.selects RX6 yX6_yearFault yX6_yearFault ∈ wsL_law := List.mem_of_getElem? (i := 471) (by decide +kernel)
theorem mw_472 : Cond.code yX6_yearFault cX6_yearFault 3 (some .int) ∈ wsL_law := List.mem_of_getElem? (i := 472) (by decide +kernel)
theorem dX6_maySkip_6 : decode cX6_maySkip 6 = .ok (.istore_n 2, 1) := by decide +kernel
theorem dX6_maySkip_7 : decode cX6_maySkip 7 = .ok (.iload_n 2, 1) := by decide +kernel
theorem dX6_maySkip_8 : decode cX6_maySkip 8 = .ok (.iconst 1, 1) := by decide +kernel
theorem dX6_maySkip_9 : decode cX6_maySkip 9 = .ok (.if_icmp .eq 12, 3) := by decide +kernel
theorem dX6_maySkip_12 : decode cX6_maySkip 12 = .ok (.iload_n 2, 1) := by decide +kernel
theorem dX6_maySkip_13 : decode cX6_maySkip 13 = .ok (.iconst 2, 1) := by decide +kernel
theorem dX6_maySkip_14 : decode cX6_maySkip 14 = .ok (.if_icmp .eq 7, 3) := by decide +kernel
theorem dX6_maySkip_17 : decode cX6_maySkip 17 = .ok (.iconst 1, 1) := by decide +kernel
theorem dX6_maySkip_18 : decode cX6_maySkip 18 = .ok (.goto 4, 3) := by decide +kernel
theorem dX6_maySkip_22 : decode cX6_maySkip 22 = .ok (.ireturn, 1) := by decide +kernel
theorem dX6_maySkip_21 : decode cX6_maySkip 21 = .ok (.iconst 0, 1) := by decide +kernel
theorem dX6_copyFrom_0 : decode cX6_copyFrom 0 = .ok (.aload_n 0, 1) := by decide +kernel
theorem dX6_copyFrom_1 : decode cX6_copyFrom 1 = .ok (.aload_n 1, 1) := by decide +kernel
theorem dX6_copyFrom_2 : decode cX6_copyFrom 2 = .ok (.getfield 40, 3) := by decide +kernel
theorem dX6_copyFrom_5 : decode cX6_copyFrom 5 = .ok (.putfield 40, 3) := by decide +kernel
theorem dX6_copyFrom_8 : decode cX6_copyFrom 8 = .ok (.aload_n 0, 1) := by decide +kernel
theorem dX6_copyFrom_9 : decode cX6_copyFrom 9 = .ok (.aload_n 1, 1) := by decide +kernel
theorem dX6_copyFrom_10 : decode cX6_copyFrom 10 = .ok (.getfield 43, 3) := by decide +kernel
theorem dX6_copyFrom_13 : decode cX6_copyFrom 13 = .ok (.putfield 43, 3) := by decide +kernel
theorem dX6_copyFrom_16 : decode cX6_copyFrom 16 = .ok (.aload_n 0, 1) := by decide +kernel
theorem dX6_copyFrom_17 : decode cX6_copyFrom 17 = .ok (.aload_n 1, 1) := by decide +kernel
theorem dX6_copyFrom_18 : decode cX6_copyFrom 18 = .ok (.getfield 9, 3) := by decide +kernel
theorem mw_54 : Cond.fieldLink RX6 9 "ThatchNext$World" "deep" "I" ∈ wsL_law := List.mem_of_getElem? (i := 54) (by decide +kernel)
theorem dX6_copyFrom_21 : decode cX6_copyFrom 21 = .ok (.putfield 9, 3) := by decide +kernel
theorem dX6_copyFrom_24 : decode cX6_copyFrom 24 = .ok (.aload_n 0, 1) := by decide +kernel
theorem dX6_copyFrom_25 : decode cX6_copyFrom 25 = .ok (.aload_n 1, 1) := by decide +kernel
theorem dX6_copyFrom_26 : decode cX6_copyFrom 26 = .ok (.getfield 15, 3) := by decide +kernel
theorem mw_55 : Cond.fieldLink RX6 15 "ThatchNext$World" "reedYears" "I" ∈ wsL_law := List.mem_of_getElem? (i := 55) (by decide +kernel)
theorem dX6_copyFrom_29 : decode cX6_copyFrom 29 = .ok (.putfield 15, 3) := by decide +kernel
theorem dX6_copyFrom_32 : decode cX6_copyFrom 32 = .ok (.aload_n 0, 1) := by decide +kernel
theorem dX6_copyFrom_33 : decode cX6_copyFrom 33 = .ok (.aload_n 1, 1) := by decide +kernel
theorem dX6_copyFrom_34 : decode cX6_copyFrom 34 = .ok (.getfield 18, 3) := by decide +kernel
theorem mw_56 : Cond.fieldLink RX6 18 "ThatchNext$World" "strawYears" "I" ∈ wsL_law := List.mem_of_getElem? (i := 56) (by decide +kernel)
theorem dX6_copyFrom_37 : decode cX6_copyFrom 37 = .ok (.putfield 18, 3) := by decide +kernel
theorem dX6_copyFrom_40 : decode cX6_copyFrom 40 = .ok (.aload_n 0, 1) := by decide +kernel
theorem dX6_copyFrom_41 : decode cX6_copyFrom 41 = .ok (.aload_n 1, 1) := by decide +kernel
theorem dX6_copyFrom_42 : decode cX6_copyFrom 42 = .ok (.getfield 21, 3) := by decide +kernel
theorem mw_57 : Cond.fieldLink RX6 21 "ThatchNext$World" "odds" "I" ∈ wsL_law := List.mem_of_getElem? (i := 57) (by decide +kernel)
theorem dX6_copyFrom_45 : decode cX6_copyFrom 45 = .ok (.putfield 21, 3) := by decide +kernel
theorem dX6_copyFrom_48 : decode cX6_copyFrom 48 = .ok (.aload_n 0, 1) := by decide +kernel
theorem dX6_copyFrom_49 : decode cX6_copyFrom 49 = .ok (.aload_n 1, 1) := by decide +kernel
theorem dX6_copyFrom_50 : decode cX6_copyFrom 50 = .ok (.getfield 46, 3) := by decide +kernel
theorem mw_154 : Cond.fieldLink RX6 46 "ThatchNext$World" "isRing" "Z" ∈ wsL_law := List.mem_of_getElem? (i := 154) (by decide +kernel)
theorem dX6_copyFrom_53 : decode cX6_copyFrom 53 = .ok (.putfield 46, 3) := by decide +kernel
theorem dX6_copyFrom_56 : decode cX6_copyFrom 56 = .ok (.aload_n 0, 1) := by decide +kernel
theorem dX6_copyFrom_57 : decode cX6_copyFrom 57 = .ok (.aload_n 1, 1) := by decide +kernel
theorem dX6_copyFrom_58 : decode cX6_copyFrom 58 = .ok (.getfield 50, 3) := by decide +kernel
theorem dX6_copyFrom_61 : decode cX6_copyFrom 61 = .ok (.putfield 50, 3) := by decide +kernel
theorem dX6_copyFrom_64 : decode cX6_copyFrom 64 = .ok (.aload_n 0, 1) := by decide +kernel
theorem dX6_copyFrom_65 : decode cX6_copyFrom 65 = .ok (.aload_n 1, 1) := by decide +kernel
theorem dX6_copyFrom_66 : decode cX6_copyFrom 66 = .ok (.getfield 53, 3) := by decide +kernel
theorem mw_156 : Cond.fieldLink RX6 53 "ThatchNext$World" "cats" "I" ∈ wsL_law := List.mem_of_getElem? (i := 156) (by decide +kernel)
theorem dX6_copyFrom_69 : decode cX6_copyFrom 69 = .ok (.putfield 53, 3) := by decide +kernel
theorem dX6_copyFrom_72 : decode cX6_copyFrom 72 = .ok (.aload_n 0, 1) := by decide +kernel
theorem dX6_copyFrom_73 : decode cX6_copyFrom 73 = .ok (.aload_n 1, 1) := by decide +kernel
theorem dX6_copyFrom_74 : decode cX6_copyFrom 74 = .ok (.getfield 56, 3) := by decide +kernel
theorem mw_157 : Cond.fieldLink RX6 56 "ThatchNext$World" "lines" "I" ∈ wsL_law := List.mem_of_getElem? (i := 157) (by decide +kernel)
theorem dX6_copyFrom_77 : decode cX6_copyFrom 77 = .ok (.putfield 56, 3) := by decide +kernel
theorem dX6_copyFrom_80 : decode cX6_copyFrom 80 = .ok (.aload_n 0, 1) := by decide +kernel
theorem dX6_copyFrom_81 : decode cX6_copyFrom 81 = .ok (.aload_n 1, 1) := by decide +kernel
theorem dX6_copyFrom_82 : decode cX6_copyFrom 82 = .ok (.getfield 59, 3) := by decide +kernel
theorem mw_158 : Cond.fieldLink RX6 59 "ThatchNext$World" "told" "I" ∈ wsL_law := List.mem_of_getElem? (i := 158) (by decide +kernel)
theorem dX6_copyFrom_85 : decode cX6_copyFrom 85 = .ok (.putfield 59, 3) := by decide +kernel
theorem dX6_copyFrom_88 : decode cX6_copyFrom 88 = .ok (.aload_n 1, 1) := by decide +kernel
theorem dX6_copyFrom_89 : decode cX6_copyFrom 89 = .ok (.getfield 24, 3) := by decide +kernel
theorem mw_58 : Cond.fieldLink RX6 24 "ThatchNext$World" "depths" "[I" ∈ wsL_law := List.mem_of_getElem? (i := 58) (by decide +kernel)
theorem dX6_copyFrom_92 : decode cX6_copyFrom 92 = .ok (.iconst 0, 1) := by decide +kernel
theorem dX6_copyFrom_93 : decode cX6_copyFrom 93 = .ok (.aload_n 0, 1) := by decide +kernel
theorem dX6_copyFrom_94 : decode cX6_copyFrom 94 = .ok (.getfield 24, 3) := by decide +kernel
theorem dX6_copyFrom_97 : decode cX6_copyFrom 97 = .ok (.iconst 0, 1) := by decide +kernel
theorem dX6_copyFrom_98 : decode cX6_copyFrom 98 = .ok (.aload_n 0, 1) := by decide +kernel
theorem dX6_copyFrom_99 : decode cX6_copyFrom 99 = .ok (.getfield 40, 3) := by decide +kernel
theorem dX6_copyFrom_102 : decode cX6_copyFrom 102 = .ok (.invokestatic 62, 3) := by decide +kernel
theorem mw_279 : Cond.methodLink RX6 62 arraycopyName ∈ wsL_law := List.mem_of_getElem? (i := 279) (by decide +kernel)
theorem mw_280 : Cond.native arraycopyName ∈ wsL_law := List.mem_of_getElem? (i := 280) (by decide +kernel)
theorem mw_281 : Cond.static arraycopyName ∈ wsL_law := List.mem_of_getElem? (i := 281) (by decide +kernel)
theorem mw_282 : Cond.initialized "java/lang/System" ∈ wsL_law := List.mem_of_getElem? (i := 282) (by decide +kernel)
theorem dX6_copyFrom_105 : decode cX6_copyFrom 105 = .ok (.aload_n 1, 1) := by decide +kernel
theorem dX6_copyFrom_106 : decode cX6_copyFrom 106 = .ok (.getfield 28, 3) := by decide +kernel
theorem mw_59 : Cond.fieldLink RX6 28 "ThatchNext$World" "laid" "[I" ∈ wsL_law := List.mem_of_getElem? (i := 59) (by decide +kernel)
theorem dX6_copyFrom_109 : decode cX6_copyFrom 109 = .ok (.iconst 0, 1) := by decide +kernel
theorem dX6_copyFrom_110 : decode cX6_copyFrom 110 = .ok (.aload_n 0, 1) := by decide +kernel
theorem dX6_copyFrom_111 : decode cX6_copyFrom 111 = .ok (.getfield 28, 3) := by decide +kernel
theorem dX6_copyFrom_114 : decode cX6_copyFrom 114 = .ok (.iconst 0, 1) := by decide +kernel
theorem dX6_copyFrom_115 : decode cX6_copyFrom 115 = .ok (.aload_n 0, 1) := by decide +kernel
theorem dX6_copyFrom_116 : decode cX6_copyFrom 116 = .ok (.getfield 40, 3) := by decide +kernel
theorem dX6_copyFrom_119 : decode cX6_copyFrom 119 = .ok (.invokestatic 62, 3) := by decide +kernel
theorem dX6_copyFrom_122 : decode cX6_copyFrom 122 = .ok (.aload_n 1, 1) := by decide +kernel
theorem dX6_copyFrom_123 : decode cX6_copyFrom 123 = .ok (.getfield 31, 3) := by decide +kernel
theorem mw_60 : Cond.fieldLink RX6 31 "ThatchNext$World" "layers" "[I" ∈ wsL_law := List.mem_of_getElem? (i := 60) (by decide +kernel)
theorem dX6_copyFrom_126 : decode cX6_copyFrom 126 = .ok (.iconst 0, 1) := by decide +kernel
theorem dX6_copyFrom_127 : decode cX6_copyFrom 127 = .ok (.aload_n 0, 1) := by decide +kernel
theorem dX6_copyFrom_128 : decode cX6_copyFrom 128 = .ok (.getfield 31, 3) := by decide +kernel
theorem dX6_copyFrom_131 : decode cX6_copyFrom 131 = .ok (.iconst 0, 1) := by decide +kernel
theorem dX6_copyFrom_132 : decode cX6_copyFrom 132 = .ok (.aload_n 0, 1) := by decide +kernel
theorem dX6_copyFrom_133 : decode cX6_copyFrom 133 = .ok (.getfield 40, 3) := by decide +kernel
theorem dX6_copyFrom_136 : decode cX6_copyFrom 136 = .ok (.bipush 6, 2) := by decide +kernel
theorem dX6_copyFrom_138 : decode cX6_copyFrom 138 = .ok (.imul, 1) := by decide +kernel
theorem dX6_copyFrom_139 : decode cX6_copyFrom 139 = .ok (.invokestatic 62, 3) := by decide +kernel
theorem dX6_copyFrom_142 : decode cX6_copyFrom 142 = .ok (.return_, 1) := by decide +kernel
theorem dX6_passYear_0 : decode cX6_passYear 0 = .ok (.aload_n 0, 1) := by decide +kernel
theorem dX6_passYear_1 : decode cX6_passYear 1 = .ok (.getfield 31, 3) := by decide +kernel
theorem dX6_passYear_4 : decode cX6_passYear 4 = .ok (.iconst 0, 1) := by decide +kernel
theorem dX6_passYear_5 : decode cX6_passYear 5 = .ok (.aload_n 0, 1) := by decide +kernel
theorem dX6_passYear_6 : decode cX6_passYear 6 = .ok (.getfield 37, 3) := by decide +kernel
theorem mw_62 : Cond.fieldLink RX6 37 "ThatchNext$World" "layersBefore" "[I" ∈ wsL_law := List.mem_of_getElem? (i := 62) (by decide +kernel)
theorem dX6_passYear_9 : decode cX6_passYear 9 = .ok (.iconst 0, 1) := by decide +kernel
theorem dX6_passYear_10 : decode cX6_passYear 10 = .ok (.aload_n 0, 1) := by decide +kernel
theorem dX6_passYear_11 : decode cX6_passYear 11 = .ok (.getfield 40, 3) := by decide +kernel
theorem dX6_passYear_14 : decode cX6_passYear 14 = .ok (.bipush 6, 2) := by decide +kernel
theorem dX6_passYear_16 : decode cX6_passYear 16 = .ok (.imul, 1) := by decide +kernel
theorem dX6_passYear_17 : decode cX6_passYear 17 = .ok (.invokestatic 62, 3) := by decide +kernel
theorem dX6_passYear_20 : decode cX6_passYear 20 = .ok (.aload_n 0, 1) := by decide +kernel
theorem dX6_passYear_21 : decode cX6_passYear 21 = .ok (.getfield 24, 3) := by decide +kernel
theorem dX6_passYear_24 : decode cX6_passYear 24 = .ok (.iconst 0, 1) := by decide +kernel
theorem dX6_passYear_25 : decode cX6_passYear 25 = .ok (.aload_n 0, 1) := by decide +kernel
theorem dX6_passYear_26 : decode cX6_passYear 26 = .ok (.getfield 34, 3) := by decide +kernel
theorem mw_61 : Cond.fieldLink RX6 34 "ThatchNext$World" "depthsBefore" "[I" ∈ wsL_law := List.mem_of_getElem? (i := 61) (by decide +kernel)
theorem dX6_passYear_29 : decode cX6_passYear 29 = .ok (.iconst 0, 1) := by decide +kernel
theorem dX6_passYear_30 : decode cX6_passYear 30 = .ok (.aload_n 0, 1) := by decide +kernel
theorem dX6_passYear_31 : decode cX6_passYear 31 = .ok (.getfield 40, 3) := by decide +kernel
theorem dX6_passYear_34 : decode cX6_passYear 34 = .ok (.invokestatic 62, 3) := by decide +kernel
theorem dX6_passYear_37 : decode cX6_passYear 37 = .ok (.iconst 0, 1) := by decide +kernel
theorem dX6_passYear_38 : decode cX6_passYear 38 = .ok (.istore_n 2, 1) := by decide +kernel
theorem dX6_passYear_39 : decode cX6_passYear 39 = .ok (.iload_n 2, 1) := by decide +kernel
theorem dX6_passYear_40 : decode cX6_passYear 40 = .ok (.aload_n 0, 1) := by decide +kernel
theorem dX6_passYear_41 : decode cX6_passYear 41 = .ok (.getfield 40, 3) := by decide +kernel
theorem dX6_passYear_44 : decode cX6_passYear 44 = .ok (.if_icmp .ge 57, 3) := by decide +kernel
theorem dX6_passYear_101 : decode cX6_passYear 101 = .ok (.aload_n 0, 1) := by decide +kernel
theorem dX6_passYear_102 : decode cX6_passYear 102 = .ok (.dup, 1) := by decide +kernel
theorem dX6_passYear_103 : decode cX6_passYear 103 = .ok (.getfield 43, 3) := by decide +kernel
theorem dX6_passYear_106 : decode cX6_passYear 106 = .ok (.iconst 1, 1) := by decide +kernel
theorem dX6_passYear_107 : decode cX6_passYear 107 = .ok (.iadd, 1) := by decide +kernel
theorem dX6_passYear_108 : decode cX6_passYear 108 = .ok (.putfield 43, 3) := by decide +kernel
theorem dX6_passYear_111 : decode cX6_passYear 111 = .ok (.return_, 1) := by decide +kernel
theorem dX6_drySkippers_0 : decode cX6_drySkippers 0 = .ok (.aload_n 1, 1) := by decide +kernel
theorem dX6_drySkippers_1 : decode cX6_drySkippers 1 = .ok (.aload_n 0, 1) := by decide +kernel
theorem dX6_drySkippers_2 : decode cX6_drySkippers 2 = .ok (.invokevirtual 124, 3) := by decide +kernel
theorem hd_yX6_copyFrom : HD yX6_copyFrom RX6 1 := by decide +kernel
theorem mw_718 : Cond.methodLink RX6 124 yX6_copyFrom ∈ wsL_law := List.mem_of_getElem? (i := 718) (by decide +kernel)
theorem mw_276 : Cond.instanceMethod yX6_copyFrom ∈ wsL_law := List.mem_of_getElem? (i := 276) (by decide +kernel)
theorem mw_277 : Cond.selects RX6 yX6_copyFrom yX6_copyFrom ∈ wsL_law := List.mem_of_getElem? (i := 277) (by decide +kernel)
theorem mw_278 : Cond.code yX6_copyFrom cX6_copyFrom 2 none ∈ wsL_law := List.mem_of_getElem? (i := 278) (by decide +kernel)
theorem dX6_drySkippers_5 : decode cX6_drySkippers 5 = .ok (.aload_n 1, 1) := by decide +kernel
theorem dX6_drySkippers_6 : decode cX6_drySkippers 6 = .ok (.aload_n 0, 1) := by decide +kernel
theorem dX6_drySkippers_7 : decode cX6_drySkippers 7 = .ok (.invokevirtual 128, 3) := by decide +kernel
theorem hd_yX6_thatched : HD yX6_thatched RX6 0 := by decide +kernel
theorem mw_719 : Cond.methodLink RX6 128 yX6_thatched ∈ wsL_law := List.mem_of_getElem? (i := 719) (by decide +kernel)
theorem mw_720 : Cond.instanceMethod yX6_thatched ∈ wsL_law := List.mem_of_getElem? (i := 720) (by decide +kernel)
theorem mw_721 : Cond.selects RX6 yX6_thatched yX6_thatched ∈ wsL_law := List.mem_of_getElem? (i := 721) (by decide +kernel)
theorem mw_722 : Cond.code yX6_thatched cX6_thatched 1 (some .int) ∈ wsL_law := List.mem_of_getElem? (i := 722) (by decide +kernel)
theorem dX6_drySkippers_10 : decode cX6_drySkippers 10 = .ok (.invokevirtual 131, 3) := by decide +kernel
theorem hd_yX6_passYear : HD yX6_passYear RX6 1 := by decide +kernel
theorem mw_582 : Cond.methodLink RX6 131 yX6_passYear ∈ wsL_law := List.mem_of_getElem? (i := 582) (by decide +kernel)
theorem mw_479 : Cond.instanceMethod yX6_passYear ∈ wsL_law := List.mem_of_getElem? (i := 479) (by decide +kernel)
theorem mw_480 : Cond.selects RX6 yX6_passYear yX6_passYear ∈ wsL_law := List.mem_of_getElem? (i := 480) (by decide +kernel)
theorem mw_481 : Cond.code yX6_passYear cX6_passYear 3 none ∈ wsL_law := List.mem_of_getElem? (i := 481) (by decide +kernel)
theorem dX6_drySkippers_13 : decode cX6_drySkippers 13 = .ok (.aload_n 0, 1) := by decide +kernel
theorem dX6_drySkippers_14 : decode cX6_drySkippers 14 = .ok (.invokevirtual 128, 3) := by decide +kernel
theorem dX6_drySkippers_17 : decode cX6_drySkippers 17 = .ok (.aload_n 1, 1) := by decide +kernel
theorem dX6_drySkippers_18 : decode cX6_drySkippers 18 = .ok (.invokevirtual 135, 3) := by decide +kernel
theorem hd_yX6_leaking : HD yX6_leaking RX6 0 := by decide +kernel
theorem mw_723 : Cond.methodLink RX6 135 yX6_leaking ∈ wsL_law := List.mem_of_getElem? (i := 723) (by decide +kernel)
theorem mw_507 : Cond.instanceMethod yX6_leaking ∈ wsL_law := List.mem_of_getElem? (i := 507) (by decide +kernel)
theorem mw_508 : Cond.selects RX6 yX6_leaking yX6_leaking ∈ wsL_law := List.mem_of_getElem? (i := 508) (by decide +kernel)
theorem mw_509 : Cond.code yX6_leaking cX6_leaking 4 (some .int) ∈ wsL_law := List.mem_of_getElem? (i := 509) (by decide +kernel)
theorem dX6_drySkippers_21 : decode cX6_drySkippers 21 = .ok (.iconst (-1), 1) := by decide +kernel
theorem dX6_drySkippers_22 : decode cX6_drySkippers 22 = .ok (.ixor, 1) := by decide +kernel
theorem dX6_drySkippers_23 : decode cX6_drySkippers 23 = .ok (.iand, 1) := by decide +kernel
theorem dX6_drySkippers_24 : decode cX6_drySkippers 24 = .ok (.ireturn, 1) := by decide +kernel
theorem dX6_clear_0 : decode cX6_clear 0 = .ok (.aload_n 0, 1) := by decide +kernel
theorem dX6_clear_1 : decode cX6_clear 1 = .ok (.iconst 0, 1) := by decide +kernel
theorem dX6_clear_2 : decode cX6_clear 2 = .ok (.putfield 40, 3) := by decide +kernel
theorem dX6_clear_5 : decode cX6_clear 5 = .ok (.aload_n 0, 1) := by decide +kernel
theorem dX6_clear_6 : decode cX6_clear 6 = .ok (.iconst 0, 1) := by decide +kernel
theorem dX6_clear_7 : decode cX6_clear 7 = .ok (.putfield 43, 3) := by decide +kernel
theorem dX6_clear_10 : decode cX6_clear 10 = .ok (.aload_n 0, 1) := by decide +kernel
theorem dX6_clear_11 : decode cX6_clear 11 = .ok (.iconst 3, 1) := by decide +kernel
theorem dX6_clear_12 : decode cX6_clear 12 = .ok (.putfield 9, 3) := by decide +kernel
theorem dX6_clear_15 : decode cX6_clear 15 = .ok (.aload_n 0, 1) := by decide +kernel
theorem dX6_clear_16 : decode cX6_clear 16 = .ok (.bipush 8, 2) := by decide +kernel
theorem dX6_clear_18 : decode cX6_clear 18 = .ok (.putfield 15, 3) := by decide +kernel
theorem dX6_clear_21 : decode cX6_clear 21 = .ok (.aload_n 0, 1) := by decide +kernel
theorem dX6_clear_22 : decode cX6_clear 22 = .ok (.iconst 4, 1) := by decide +kernel
theorem dX6_clear_23 : decode cX6_clear 23 = .ok (.putfield 18, 3) := by decide +kernel
theorem dX6_clear_26 : decode cX6_clear 26 = .ok (.aload_n 0, 1) := by decide +kernel
theorem dX6_clear_27 : decode cX6_clear 27 = .ok (.iconst 4, 1) := by decide +kernel
theorem dX6_clear_28 : decode cX6_clear 28 = .ok (.putfield 21, 3) := by decide +kernel
theorem dX6_clear_31 : decode cX6_clear 31 = .ok (.aload_n 0, 1) := by decide +kernel
theorem dX6_clear_32 : decode cX6_clear 32 = .ok (.iconst 0, 1) := by decide +kernel
theorem dX6_clear_33 : decode cX6_clear 33 = .ok (.putfield 46, 3) := by decide +kernel
theorem dX6_clear_36 : decode cX6_clear 36 = .ok (.aload_n 0, 1) := by decide +kernel
theorem dX6_clear_37 : decode cX6_clear 37 = .ok (.iconst 0, 1) := by decide +kernel
theorem dX6_clear_38 : decode cX6_clear 38 = .ok (.putfield 50, 3) := by decide +kernel
theorem dX6_clear_41 : decode cX6_clear 41 = .ok (.aload_n 0, 1) := by decide +kernel
theorem dX6_clear_42 : decode cX6_clear 42 = .ok (.iconst 0, 1) := by decide +kernel
theorem dX6_clear_43 : decode cX6_clear 43 = .ok (.putfield 53, 3) := by decide +kernel
theorem dX6_clear_46 : decode cX6_clear 46 = .ok (.aload_n 0, 1) := by decide +kernel
theorem dX6_clear_47 : decode cX6_clear 47 = .ok (.iconst 0, 1) := by decide +kernel
theorem dX6_clear_48 : decode cX6_clear 48 = .ok (.putfield 56, 3) := by decide +kernel
theorem dX6_clear_51 : decode cX6_clear 51 = .ok (.aload_n 0, 1) := by decide +kernel
theorem dX6_clear_52 : decode cX6_clear 52 = .ok (.iconst 0, 1) := by decide +kernel
theorem dX6_clear_53 : decode cX6_clear 53 = .ok (.putfield 59, 3) := by decide +kernel
theorem dX6_clear_56 : decode cX6_clear 56 = .ok (.iconst 0, 1) := by decide +kernel
theorem dX6_clear_57 : decode cX6_clear 57 = .ok (.istore_n 1, 1) := by decide +kernel
theorem dX6_clear_58 : decode cX6_clear 58 = .ok (.iload_n 1, 1) := by decide +kernel
theorem dX6_clear_59 : decode cX6_clear 59 = .ok (.bipush 10, 2) := by decide +kernel
theorem dX6_clear_61 : decode cX6_clear 61 = .ok (.if_icmp .ge 23, 3) := by decide +kernel
theorem dX6_clear_84 : decode cX6_clear 84 = .ok (.return_, 1) := by decide +kernel
theorem dX6_clear_64 : decode cX6_clear 64 = .ok (.aload_n 0, 1) := by decide +kernel
theorem dX6_clear_65 : decode cX6_clear 65 = .ok (.getfield 24, 3) := by decide +kernel
theorem dX6_clear_68 : decode cX6_clear 68 = .ok (.iload_n 1, 1) := by decide +kernel
theorem dX6_clear_69 : decode cX6_clear 69 = .ok (.iconst 0, 1) := by decide +kernel
theorem dX6_clear_70 : decode cX6_clear 70 = .ok (.iastore, 1) := by decide +kernel
theorem dX6_clear_71 : decode cX6_clear 71 = .ok (.aload_n 0, 1) := by decide +kernel
theorem dX6_clear_72 : decode cX6_clear 72 = .ok (.getfield 28, 3) := by decide +kernel
theorem dX6_clear_75 : decode cX6_clear 75 = .ok (.iload_n 1, 1) := by decide +kernel
theorem dX6_clear_76 : decode cX6_clear 76 = .ok (.iconst 0, 1) := by decide +kernel
theorem dX6_clear_77 : decode cX6_clear 77 = .ok (.iastore, 1) := by decide +kernel
theorem dX6_clear_78 : decode cX6_clear 78 = .ok (.iinc 1 1, 3) := by decide +kernel
theorem dX6_clear_81 : decode cX6_clear 81 = .ok (.goto (-23), 3) := by decide +kernel
set_option maxHeartbeats 4000000 in
set_option maxRecDepth 100000 in
theorem c_W_isRoof (l : Launch) (D : va_G) (k : Nat → ClassId) (w : Nat → Nat) (y : Int32) (r : Int32) : Met l yX6_isRoof (Cond.code yX6_isRoof cX6_isRoof 2 (some .boolean) :: wsL_law) ({ frames := 0, cells := 0, slots := 0, locals := 0 } : Room) (va_Pc [.ref (w 0), .int r] (pr D k [((w 0), .inr (5, [.int 0, .int y, .int 3, .int 8, .int 4, .int 4, .int 0, .int 0, .int 0, .int 0, .int 0, .ref (w 1), .ref (w 2), .ref (w 3), .ref (w 4), .ref (w 5)]))])) (vp_Si (fun rr => rr = 0)) 0 0 (fun _ => False) := by
  refine Met.ofW (cc := cX6_isRoof) (maxL := 2) (ret := (some .boolean)) (by decide) rfl ?_
  intro p e s m args below meth c s₁ B hml hv
  obtain ⟨rfl, hP, hK⟩ := hv
  have hx := B.exec
  have hb := B.bytes
  have hr := B.returns
  have hts : ∀ w ∈ wsL_law, w.before _ s = true := fun w h => atoms_spec (ws := Cond.code yX6_isRoof cX6_isRoof 2 (some .boolean) :: wsL_law) B.pre w (List.mem_cons_of_mem _ h)
  have hown : s.vm.findClass RX6 = some m.cls := findClass_of_methodNamed B.named
  have hlocks := B.notSynchronized
  have hP : va_P D vwCl [((w 0), .inr (5, [.int 0, .int y, .int 3, .int 8, .int 4, .int 4, .int 0, .int 0, .int 0, .int 0, .int 0, .ref (w 1), .ref (w 2), .ref (w 3), .ref (w 4), .ref (w 5)]))] s.heap := hP
  have hl := lv_entry ([.ref (w 0), .int r]) (n := 2) (Nat.le_of_ble_eq_true rfl)
  rw [lg_entry_eq]
  generalize (lg_sl ([.ref (w 0), .int r]) ++ List.replicate (2 - (lg_sl ([.ref (w 0), .int r])).length) Slot.unset).toArray = ls at hl ⊢
  have hl : lv_has ls 2 [(0, .ref (w 0)), (1, .int r)] := hl
  refine lv_iload_n hx hb dX6_isRoof_0 rfl (lv_at hl 1 rfl) ?_
  refine lv_if_lt (tgt := 16) hx hb dX6_isRoof_1 (by decide) (fun c_1 => ?_) (fun c_1 => ?_)
  · have c_1 : r.toInt < 0 := ti_lt c_1
    refine lv_iconst (v := 0) hx hb dX6_isRoof_16 (by decide) ?_
    exact W.zret (v := 0) hx hb hr rfl (fun t ht hW => ⟨0, rfl, rfl, ht⟩) (fun q h => by cases h) dX6_isRoof_17
  · have c_1 : 0 ≤ r.toInt := ti_nlt c_1
    refine lv_iload_n hx hb dX6_isRoof_4 rfl (lv_at hl 1 rfl) ?_
    refine lv_aload_n hx hb dX6_isRoof_5 rfl (lv_at hl 0 rfl) ?_
    refine va_get (D := D) (ci := 5) (v := .int 0) (C := RX6) (T := TX6) (N := 16) hx hb hts inlX6 hown hK hP 0 rfl rfl 0 (by decide) (hts _ mw_152) (fun _ h9 => h9) rfl dX6_isRoof_6 ?_
    refine lv_icmp_ge (tgt := 16) hx hb dX6_isRoof_9 (by decide) (fun c_2 => ?_) (fun c_2 => by have q := ti_nle c_2; have q : r.toInt < 0 := q; exfalso; omega)
    have c_2 : 0 ≤ r.toInt := ti_le c_2
    refine lv_iconst (v := 0) hx hb dX6_isRoof_16 (by decide) ?_
    exact W.zret (v := 0) hx hb hr rfl (fun t ht hW => ⟨0, rfl, rfl, ht⟩) (fun q h => by cases h) dX6_isRoof_17
set_option maxHeartbeats 4000000 in
set_option maxRecDepth 100000 in
theorem c_W_allRoofs (l : Launch) (D : va_G) (k : Nat → ClassId) (w : Nat → Nat) (y : Int32) : Met l yX6_allRoofs (Cond.code yX6_allRoofs cX6_allRoofs 1 (some .int) :: wsL_law) ({ frames := 0, cells := 0, slots := 0, locals := 0 } : Room) (va_Pc [.ref (w 0)] (pr D k [((w 0), .inr (5, [.int 0, .int y, .int 3, .int 8, .int 4, .int 4, .int 0, .int 0, .int 0, .int 0, .int 0, .ref (w 1), .ref (w 2), .ref (w 3), .ref (w 4), .ref (w 5)]))])) (vp_Si (fun rr => rr = 0)) 0 0 (fun _ => False) := by
  refine Met.ofW (cc := cX6_allRoofs) (maxL := 1) (ret := (some .int)) (by decide) rfl ?_
  intro p e s m args below meth c s₁ B hml hv
  obtain ⟨rfl, hP, hK⟩ := hv
  have hx := B.exec
  have hb := B.bytes
  have hr := B.returns
  have hts : ∀ w ∈ wsL_law, w.before _ s = true := fun w h => atoms_spec (ws := Cond.code yX6_allRoofs cX6_allRoofs 1 (some .int) :: wsL_law) B.pre w (List.mem_cons_of_mem _ h)
  have hown : s.vm.findClass RX6 = some m.cls := findClass_of_methodNamed B.named
  have hlocks := B.notSynchronized
  have hP : va_P D vwCl [((w 0), .inr (5, [.int 0, .int y, .int 3, .int 8, .int 4, .int 4, .int 0, .int 0, .int 0, .int 0, .int 0, .ref (w 1), .ref (w 2), .ref (w 3), .ref (w 4), .ref (w 5)]))] s.heap := hP
  have hl := lv_entry ([.ref (w 0)]) (n := 1) (Nat.le_of_ble_eq_true rfl)
  rw [lg_entry_eq]
  generalize (lg_sl ([.ref (w 0)]) ++ List.replicate (1 - (lg_sl ([.ref (w 0)])).length) Slot.unset).toArray = ls at hl ⊢
  have hl : lv_has ls 1 [(0, .ref (w 0))] := hl
  refine lv_iconst (v := 1) hx hb dX6_allRoofs_0 (by decide) ?_
  refine lv_aload_n hx hb dX6_allRoofs_1 rfl (lv_at hl 0 rfl) ?_
  refine va_get (D := D) (ci := 5) (v := .int 0) (C := RX6) (T := TX6) (N := 16) hx hb hts inlX6 hown hK hP 0 rfl rfl 0 (by decide) (hts _ mw_152) (fun _ h9 => h9) rfl dX6_allRoofs_2 ?_
  refine lv_ishl hx hb dX6_allRoofs_5 ?_
  refine lv_ni (v := 1) (by decide) ?_
  refine lv_iconst (v := 1) hx hb dX6_allRoofs_6 (by decide) ?_
  refine lv_isub hx hb dX6_allRoofs_7 ?_
  refine lv_ni (v := 0) (by decide) ?_
  exact W.iret (v := 0) hx hb hr (fun t ht hW => ⟨0, rfl, rfl, ht⟩) (fun q h => by cases h) dX6_allRoofs_8
set_option maxHeartbeats 4000000 in
set_option maxRecDepth 100000 in
theorem c_W_thatched (l : Launch) (D : va_G) (k : Nat → ClassId) (w : Nat → Nat) (y : Int32) : Met l yX6_thatched (Cond.code yX6_thatched cX6_thatched 1 (some .int) :: wsL_law) ({ frames := 1, cells := 0, slots := 0, locals := 60 } : Room) (va_Pc [.ref (w 0)] (pr D k [((w 0), .inr (5, [.int 0, .int y, .int 3, .int 8, .int 4, .int 4, .int 0, .int 0, .int 0, .int 0, .int 0, .ref (w 1), .ref (w 2), .ref (w 3), .ref (w 4), .ref (w 5)]))])) (vp_Si (fun rr => rr = 0)) 0 0 (fun _ => False) := by
  refine Met.ofW (cc := cX6_thatched) (maxL := 1) (ret := (some .int)) (by decide) rfl ?_
  intro p e s m args below meth c s₁ B hml hv
  obtain ⟨rfl, hP, hK⟩ := hv
  have hx := B.exec
  have hb := B.bytes
  have hr := B.returns
  have hts : ∀ w ∈ wsL_law, w.before _ s = true := fun w h => atoms_spec (ws := Cond.code yX6_thatched cX6_thatched 1 (some .int) :: wsL_law) B.pre w (List.mem_cons_of_mem _ h)
  have hown : s.vm.findClass RX6 = some m.cls := findClass_of_methodNamed B.named
  have hlocks := B.notSynchronized
  have hP : va_P D vwCl [((w 0), .inr (5, [.int 0, .int y, .int 3, .int 8, .int 4, .int 4, .int 0, .int 0, .int 0, .int 0, .int 0, .ref (w 1), .ref (w 2), .ref (w 3), .ref (w 4), .ref (w 5)]))] s.heap := hP
  have hl := lv_entry ([.ref (w 0)]) (n := 1) (Nat.le_of_ble_eq_true rfl)
  rw [lg_entry_eq]
  generalize (lg_sl ([.ref (w 0)]) ++ List.replicate (1 - (lg_sl ([.ref (w 0)])).length) Slot.unset).toArray = ls at hl ⊢
  have hl : lv_has ls 1 [(0, .ref (w 0))] := hl
  refine lv_aload_n hx hb dX6_thatched_0 rfl (lv_at hl 0 rfl) ?_
  refine kV_i (q0 := 0) (As := []) (rest := []) (cs := [((w 0), .inr (5, [.int 0, .int y, .int 3, .int 8, .int 4, .int 4, .int 0, .int 0, .int 0, .int 0, .int 0, .ref (w 1), .ref (w 2), .ref (w 3), .ref (w 4), .ref (w 5)]))]) ⟨hx, hb, hml, hown, hts⟩ (c_W_allRoofs l D k _ y) (gV mw_474 mw_475 mw_476 mw_19 mw_477) hd_yX6_allRoofs rfl rfl ⟨Nat.le_of_ble_eq_true rfl, Nat.le_of_ble_eq_true rfl⟩ hK (hP.sub (ws' := [((w 0), .inr (5, [.int 0, .int y, .int 3, .int 8, .int 4, .int 4, .int 0, .int 0, .int 0, .int 0, .int 0, .ref (w 1), .ref (w 2), .ref (w 3), .ref (w 4), .ref (w 5)]))]) [0] rfl) rfl rfl rfl rfl hl.1 rfl (Nat.le_of_ble_eq_true rfl) dX6_thatched_1 ⟨Nat.le_of_ble_eq_true rfl, Nat.le_of_ble_eq_true rfl⟩ (fun r_1 hr_1 => ?_)
  obtain rfl : r_1 = 0 := hr_1
  refine lv_aload_n hx hb dX6_thatched_4 rfl (lv_at hl 0 rfl) ?_
  refine va_get (D := D) (ci := 5) (v := .int 0) (C := RX6) (T := TX6) (N := 16) hx hb hts inlX6 hown hK hP 0 rfl rfl 7 (by decide) (hts _ mw_155) (fun _ h9 => h9) rfl dX6_thatched_5 ?_
  refine lv_iconst (v := (-1)) hx hb dX6_thatched_8 (by decide) ?_
  refine lv_ixor hx hb dX6_thatched_9 ?_
  refine lv_ni (v := (-1)) (by decide) ?_
  refine lv_iand hx hb dX6_thatched_10 ?_
  refine lv_ni (v := 0) (by decide) ?_
  exact W.iret (v := 0) hx hb hr (fun t ht hW => ⟨0, rfl, rfl, ht⟩) (fun q h => by cases h) dX6_thatched_11
set_option maxHeartbeats 4000000 in
set_option maxRecDepth 100000 in
theorem c_W_leaking (l : Launch) (D : va_G) (k : Nat → ClassId) (w : Nat → Nat) (y : Int32) : Met l yX6_leaking (Cond.code yX6_leaking cX6_leaking 4 (some .int) :: wsL_law) ({ frames := 0, cells := 0, slots := 0, locals := 0 } : Room) (va_Pc [.ref (w 0)] (pr D k [((w 0), .inr (5, [.int 0, .int y, .int 3, .int 8, .int 4, .int 4, .int 0, .int 0, .int 0, .int 0, .int 0, .ref (w 1), .ref (w 2), .ref (w 3), .ref (w 4), .ref (w 5)]))])) (vp_Si (fun rr => rr = 0)) 0 0 (fun _ => False) := by
  refine Met.ofW (cc := cX6_leaking) (maxL := 4) (ret := (some .int)) (by decide) rfl ?_
  intro p e s m args below meth c s₁ B hml hv
  obtain ⟨rfl, hP, hK⟩ := hv
  have hx := B.exec
  have hb := B.bytes
  have hr := B.returns
  have hts : ∀ w ∈ wsL_law, w.before _ s = true := fun w h => atoms_spec (ws := Cond.code yX6_leaking cX6_leaking 4 (some .int) :: wsL_law) B.pre w (List.mem_cons_of_mem _ h)
  have hown : s.vm.findClass RX6 = some m.cls := findClass_of_methodNamed B.named
  have hlocks := B.notSynchronized
  have hP : va_P D vwCl [((w 0), .inr (5, [.int 0, .int y, .int 3, .int 8, .int 4, .int 4, .int 0, .int 0, .int 0, .int 0, .int 0, .ref (w 1), .ref (w 2), .ref (w 3), .ref (w 4), .ref (w 5)]))] s.heap := hP
  have hl := lv_entry ([.ref (w 0)]) (n := 4) (Nat.le_of_ble_eq_true rfl)
  rw [lg_entry_eq]
  generalize (lg_sl ([.ref (w 0)]) ++ List.replicate (4 - (lg_sl ([.ref (w 0)])).length) Slot.unset).toArray = ls at hl ⊢
  have hl : lv_has ls 4 [(0, .ref (w 0))] := hl
  refine lv_iconst (v := 0) hx hb dX6_leaking_0 (by decide) ?_
  refine lv_istore_n (lv' := [(1, .int 0), (0, .ref (w 0))]) hx hb dX6_leaking_1 rfl hl (by decide) rfl (fun ls hl => ?_)
  refine lv_iconst (v := 0) hx hb dX6_leaking_2 (by decide) ?_
  refine lv_istore_n (lv' := [(2, .int 0), (1, .int 0), (0, .ref (w 0))]) hx hb dX6_leaking_3 rfl hl (by decide) rfl (fun ls hl => ?_)
  refine lv_iload_n hx hb dX6_leaking_4 rfl (lv_at hl 0 rfl) ?_
  refine lv_aload_n hx hb dX6_leaking_5 rfl (lv_at hl 2 rfl) ?_
  refine va_get (D := D) (ci := 5) (v := .int 0) (C := RX6) (T := TX6) (N := 16) hx hb hts inlX6 hown hK hP 0 rfl rfl 0 (by decide) (hts _ mw_152) (fun _ h9 => h9) rfl dX6_leaking_6 ?_
  refine lv_icmp_ge (tgt := 57) hx hb dX6_leaking_9 (by decide) (fun _ => ?_) (fun c9 => absurd c9 (by decide))
  refine lv_iload_n hx hb dX6_leaking_57 rfl (lv_at hl 1 rfl) ?_
  exact W.iret (v := 0) hx hb hr (fun t ht hW => ⟨0, rfl, rfl, ht⟩) (fun q h => by cases h) dX6_leaking_58
set_option maxHeartbeats 4000000 in
set_option maxRecDepth 100000 in
theorem c_W_miceInAll (l : Launch) (D : va_G) (k : Nat → ClassId) (w : Nat → Nat) (y : Int32) : Met l yX6_miceInAll (Cond.code yX6_miceInAll cX6_miceInAll 3 (some .int) :: wsL_law) ({ frames := 0, cells := 0, slots := 0, locals := 0 } : Room) (va_Pc [.ref (w 0)] (pr D k [((w 0), .inr (5, [.int 0, .int y, .int 3, .int 8, .int 4, .int 4, .int 0, .int 0, .int 0, .int 0, .int 0, .ref (w 1), .ref (w 2), .ref (w 3), .ref (w 4), .ref (w 5)]))])) (vp_Si (fun rr => rr = 0)) 0 0 (fun _ => False) := by
  refine Met.ofW (cc := cX6_miceInAll) (maxL := 3) (ret := (some .int)) (by decide) rfl ?_
  intro p e s m args below meth c s₁ B hml hv
  obtain ⟨rfl, hP, hK⟩ := hv
  have hx := B.exec
  have hb := B.bytes
  have hr := B.returns
  have hts : ∀ w ∈ wsL_law, w.before _ s = true := fun w h => atoms_spec (ws := Cond.code yX6_miceInAll cX6_miceInAll 3 (some .int) :: wsL_law) B.pre w (List.mem_cons_of_mem _ h)
  have hown : s.vm.findClass RX6 = some m.cls := findClass_of_methodNamed B.named
  have hlocks := B.notSynchronized
  have hP : va_P D vwCl [((w 0), .inr (5, [.int 0, .int y, .int 3, .int 8, .int 4, .int 4, .int 0, .int 0, .int 0, .int 0, .int 0, .ref (w 1), .ref (w 2), .ref (w 3), .ref (w 4), .ref (w 5)]))] s.heap := hP
  have hl := lv_entry ([.ref (w 0)]) (n := 3) (Nat.le_of_ble_eq_true rfl)
  rw [lg_entry_eq]
  generalize (lg_sl ([.ref (w 0)]) ++ List.replicate (3 - (lg_sl ([.ref (w 0)])).length) Slot.unset).toArray = ls at hl ⊢
  have hl : lv_has ls 3 [(0, .ref (w 0))] := hl
  refine lv_iconst (v := 0) hx hb dX6_miceInAll_0 (by decide) ?_
  refine lv_istore_n (lv' := [(1, .int 0), (0, .ref (w 0))]) hx hb dX6_miceInAll_1 rfl hl (by decide) rfl (fun ls hl => ?_)
  refine lv_iconst (v := 0) hx hb dX6_miceInAll_2 (by decide) ?_
  refine lv_istore_n (lv' := [(2, .int 0), (1, .int 0), (0, .ref (w 0))]) hx hb dX6_miceInAll_3 rfl hl (by decide) rfl (fun ls hl => ?_)
  refine lv_iload_n hx hb dX6_miceInAll_4 rfl (lv_at hl 0 rfl) ?_
  refine lv_aload_n hx hb dX6_miceInAll_5 rfl (lv_at hl 2 rfl) ?_
  refine va_get (D := D) (ci := 5) (v := .int 0) (C := RX6) (T := TX6) (N := 16) hx hb hts inlX6 hown hK hP 0 rfl rfl 0 (by decide) (hts _ mw_152) (fun _ h9 => h9) rfl dX6_miceInAll_6 ?_
  refine lv_icmp_ge (tgt := 26) hx hb dX6_miceInAll_9 (by decide) (fun _ => ?_) (fun c9 => absurd c9 (by decide))
  refine lv_iload_n hx hb dX6_miceInAll_26 rfl (lv_at hl 1 rfl) ?_
  exact W.iret (v := 0) hx hb hr (fun t ht hW => ⟨0, rfl, rfl, ht⟩) (fun q h => by cases h) dX6_miceInAll_27
set_option maxHeartbeats 4000000 in
set_option maxRecDepth 100000 in
theorem c_W_sparksInAll (l : Launch) (D : va_G) (k : Nat → ClassId) (w : Nat → Nat) (y : Int32) : Met l yX6_sparksInAll (Cond.code yX6_sparksInAll cX6_sparksInAll 3 (some .int) :: wsL_law) ({ frames := 0, cells := 0, slots := 0, locals := 0 } : Room) (va_Pc [.ref (w 0)] (pr D k [((w 0), .inr (5, [.int 0, .int y, .int 3, .int 8, .int 4, .int 4, .int 0, .int 0, .int 0, .int 0, .int 0, .ref (w 1), .ref (w 2), .ref (w 3), .ref (w 4), .ref (w 5)]))])) (vp_Si (fun rr => rr = 0)) 0 0 (fun _ => False) := by
  refine Met.ofW (cc := cX6_sparksInAll) (maxL := 3) (ret := (some .int)) (by decide) rfl ?_
  intro p e s m args below meth c s₁ B hml hv
  obtain ⟨rfl, hP, hK⟩ := hv
  have hx := B.exec
  have hb := B.bytes
  have hr := B.returns
  have hts : ∀ w ∈ wsL_law, w.before _ s = true := fun w h => atoms_spec (ws := Cond.code yX6_sparksInAll cX6_sparksInAll 3 (some .int) :: wsL_law) B.pre w (List.mem_cons_of_mem _ h)
  have hown : s.vm.findClass RX6 = some m.cls := findClass_of_methodNamed B.named
  have hlocks := B.notSynchronized
  have hP : va_P D vwCl [((w 0), .inr (5, [.int 0, .int y, .int 3, .int 8, .int 4, .int 4, .int 0, .int 0, .int 0, .int 0, .int 0, .ref (w 1), .ref (w 2), .ref (w 3), .ref (w 4), .ref (w 5)]))] s.heap := hP
  have hl := lv_entry ([.ref (w 0)]) (n := 3) (Nat.le_of_ble_eq_true rfl)
  rw [lg_entry_eq]
  generalize (lg_sl ([.ref (w 0)]) ++ List.replicate (3 - (lg_sl ([.ref (w 0)])).length) Slot.unset).toArray = ls at hl ⊢
  have hl : lv_has ls 3 [(0, .ref (w 0))] := hl
  refine lv_iconst (v := 0) hx hb dX6_sparksInAll_0 (by decide) ?_
  refine lv_istore_n (lv' := [(1, .int 0), (0, .ref (w 0))]) hx hb dX6_sparksInAll_1 rfl hl (by decide) rfl (fun ls hl => ?_)
  refine lv_iconst (v := 0) hx hb dX6_sparksInAll_2 (by decide) ?_
  refine lv_istore_n (lv' := [(2, .int 0), (1, .int 0), (0, .ref (w 0))]) hx hb dX6_sparksInAll_3 rfl hl (by decide) rfl (fun ls hl => ?_)
  refine lv_iload_n hx hb dX6_sparksInAll_4 rfl (lv_at hl 0 rfl) ?_
  refine lv_aload_n hx hb dX6_sparksInAll_5 rfl (lv_at hl 2 rfl) ?_
  refine va_get (D := D) (ci := 5) (v := .int 0) (C := RX6) (T := TX6) (N := 16) hx hb hts inlX6 hown hK hP 0 rfl rfl 0 (by decide) (hts _ mw_152) (fun _ h9 => h9) rfl dX6_sparksInAll_6 ?_
  refine lv_icmp_ge (tgt := 26) hx hb dX6_sparksInAll_9 (by decide) (fun _ => ?_) (fun c9 => absurd c9 (by decide))
  refine lv_iload_n hx hb dX6_sparksInAll_26 rfl (lv_at hl 1 rfl) ?_
  exact W.iret (v := 0) hx hb hr (fun t ht hW => ⟨0, rfl, rfl, ht⟩) (fun q h => by cases h) dX6_sparksInAll_27
set_option maxHeartbeats 4000000 in
set_option maxRecDepth 100000 in
theorem c_W_layersInAll (l : Launch) (D : va_G) (k : Nat → ClassId) (w : Nat → Nat) (y : Int32) : Met l yX6_layersInAll (Cond.code yX6_layersInAll cX6_layersInAll 3 (some .int) :: wsL_law) ({ frames := 0, cells := 0, slots := 0, locals := 0 } : Room) (va_Pc [.ref (w 0)] (pr D k [((w 0), .inr (5, [.int 0, .int y, .int 3, .int 8, .int 4, .int 4, .int 0, .int 0, .int 0, .int 0, .int 0, .ref (w 1), .ref (w 2), .ref (w 3), .ref (w 4), .ref (w 5)]))])) (vp_Si (fun rr => rr = 0)) 0 0 (fun _ => False) := by
  refine Met.ofW (cc := cX6_layersInAll) (maxL := 3) (ret := (some .int)) (by decide) rfl ?_
  intro p e s m args below meth c s₁ B hml hv
  obtain ⟨rfl, hP, hK⟩ := hv
  have hx := B.exec
  have hb := B.bytes
  have hr := B.returns
  have hts : ∀ w ∈ wsL_law, w.before _ s = true := fun w h => atoms_spec (ws := Cond.code yX6_layersInAll cX6_layersInAll 3 (some .int) :: wsL_law) B.pre w (List.mem_cons_of_mem _ h)
  have hown : s.vm.findClass RX6 = some m.cls := findClass_of_methodNamed B.named
  have hlocks := B.notSynchronized
  have hP : va_P D vwCl [((w 0), .inr (5, [.int 0, .int y, .int 3, .int 8, .int 4, .int 4, .int 0, .int 0, .int 0, .int 0, .int 0, .ref (w 1), .ref (w 2), .ref (w 3), .ref (w 4), .ref (w 5)]))] s.heap := hP
  have hl := lv_entry ([.ref (w 0)]) (n := 3) (Nat.le_of_ble_eq_true rfl)
  rw [lg_entry_eq]
  generalize (lg_sl ([.ref (w 0)]) ++ List.replicate (3 - (lg_sl ([.ref (w 0)])).length) Slot.unset).toArray = ls at hl ⊢
  have hl : lv_has ls 3 [(0, .ref (w 0))] := hl
  refine lv_iconst (v := 0) hx hb dX6_layersInAll_0 (by decide) ?_
  refine lv_istore_n (lv' := [(1, .int 0), (0, .ref (w 0))]) hx hb dX6_layersInAll_1 rfl hl (by decide) rfl (fun ls hl => ?_)
  refine lv_iconst (v := 0) hx hb dX6_layersInAll_2 (by decide) ?_
  refine lv_istore_n (lv' := [(2, .int 0), (1, .int 0), (0, .ref (w 0))]) hx hb dX6_layersInAll_3 rfl hl (by decide) rfl (fun ls hl => ?_)
  refine lv_iload_n hx hb dX6_layersInAll_4 rfl (lv_at hl 0 rfl) ?_
  refine lv_aload_n hx hb dX6_layersInAll_5 rfl (lv_at hl 2 rfl) ?_
  refine va_get (D := D) (ci := 5) (v := .int 0) (C := RX6) (T := TX6) (N := 16) hx hb hts inlX6 hown hK hP 0 rfl rfl 0 (by decide) (hts _ mw_152) (fun _ h9 => h9) rfl dX6_layersInAll_6 ?_
  refine lv_icmp_ge (tgt := 27) hx hb dX6_layersInAll_9 (by decide) (fun _ => ?_) (fun c9 => absurd c9 (by decide))
  refine lv_iload_n hx hb dX6_layersInAll_27 rfl (lv_at hl 1 rfl) ?_
  exact W.iret (v := 0) hx hb hr (fun t ht hW => ⟨0, rfl, rfl, ht⟩) (fun q h => by cases h) dX6_layersInAll_28
set_option maxHeartbeats 4000000 in
set_option maxRecDepth 100000 in
theorem c_W_laidInAll (l : Launch) (D : va_G) (k : Nat → ClassId) (w : Nat → Nat) (y : Int32) : Met l yX6_laidInAll (Cond.code yX6_laidInAll cX6_laidInAll 3 (some .int) :: wsL_law) ({ frames := 0, cells := 0, slots := 0, locals := 0 } : Room) (va_Pc [.ref (w 0)] (pr D k [((w 0), .inr (5, [.int 0, .int y, .int 3, .int 8, .int 4, .int 4, .int 0, .int 0, .int 0, .int 0, .int 0, .ref (w 1), .ref (w 2), .ref (w 3), .ref (w 4), .ref (w 5)]))])) (vp_Si (fun rr => rr = 0)) 0 0 (fun _ => False) := by
  refine Met.ofW (cc := cX6_laidInAll) (maxL := 3) (ret := (some .int)) (by decide) rfl ?_
  intro p e s m args below meth c s₁ B hml hv
  obtain ⟨rfl, hP, hK⟩ := hv
  have hx := B.exec
  have hb := B.bytes
  have hr := B.returns
  have hts : ∀ w ∈ wsL_law, w.before _ s = true := fun w h => atoms_spec (ws := Cond.code yX6_laidInAll cX6_laidInAll 3 (some .int) :: wsL_law) B.pre w (List.mem_cons_of_mem _ h)
  have hown : s.vm.findClass RX6 = some m.cls := findClass_of_methodNamed B.named
  have hlocks := B.notSynchronized
  have hP : va_P D vwCl [((w 0), .inr (5, [.int 0, .int y, .int 3, .int 8, .int 4, .int 4, .int 0, .int 0, .int 0, .int 0, .int 0, .ref (w 1), .ref (w 2), .ref (w 3), .ref (w 4), .ref (w 5)]))] s.heap := hP
  have hl := lv_entry ([.ref (w 0)]) (n := 3) (Nat.le_of_ble_eq_true rfl)
  rw [lg_entry_eq]
  generalize (lg_sl ([.ref (w 0)]) ++ List.replicate (3 - (lg_sl ([.ref (w 0)])).length) Slot.unset).toArray = ls at hl ⊢
  have hl : lv_has ls 3 [(0, .ref (w 0))] := hl
  refine lv_iconst (v := 0) hx hb dX6_laidInAll_0 (by decide) ?_
  refine lv_istore_n (lv' := [(1, .int 0), (0, .ref (w 0))]) hx hb dX6_laidInAll_1 rfl hl (by decide) rfl (fun ls hl => ?_)
  refine lv_iconst (v := 0) hx hb dX6_laidInAll_2 (by decide) ?_
  refine lv_istore_n (lv' := [(2, .int 0), (1, .int 0), (0, .ref (w 0))]) hx hb dX6_laidInAll_3 rfl hl (by decide) rfl (fun ls hl => ?_)
  refine lv_iload_n hx hb dX6_laidInAll_4 rfl (lv_at hl 0 rfl) ?_
  refine lv_aload_n hx hb dX6_laidInAll_5 rfl (lv_at hl 2 rfl) ?_
  refine va_get (D := D) (ci := 5) (v := .int 0) (C := RX6) (T := TX6) (N := 16) hx hb hts inlX6 hown hK hP 0 rfl rfl 0 (by decide) (hts _ mw_152) (fun _ h9 => h9) rfl dX6_laidInAll_6 ?_
  refine lv_icmp_ge (tgt := 27) hx hb dX6_laidInAll_9 (by decide) (fun _ => ?_) (fun c9 => absurd c9 (by decide))
  refine lv_iload_n hx hb dX6_laidInAll_27 rfl (lv_at hl 1 rfl) ?_
  exact W.iret (v := 0) hx hb hr (fun t ht hW => ⟨0, rfl, rfl, ht⟩) (fun q h => by cases h) dX6_laidInAll_28
set_option maxHeartbeats 4000000 in
set_option maxRecDepth 100000 in
theorem c_W_wetInAll (l : Launch) (D : va_G) (k : Nat → ClassId) (w : Nat → Nat) (y : Int32) : Met l yX6_wetInAll (Cond.code yX6_wetInAll cX6_wetInAll 4 (some .int) :: wsL_law) ({ frames := 0, cells := 0, slots := 0, locals := 0 } : Room) (va_Pc [.ref (w 0)] (pr D k [((w 0), .inr (5, [.int 0, .int y, .int 3, .int 8, .int 4, .int 4, .int 0, .int 0, .int 0, .int 0, .int 0, .ref (w 1), .ref (w 2), .ref (w 3), .ref (w 4), .ref (w 5)]))])) (vp_Si (fun rr => rr = 0)) 0 0 (fun _ => False) := by
  refine Met.ofW (cc := cX6_wetInAll) (maxL := 4) (ret := (some .int)) (by decide) rfl ?_
  intro p e s m args below meth c s₁ B hml hv
  obtain ⟨rfl, hP, hK⟩ := hv
  have hx := B.exec
  have hb := B.bytes
  have hr := B.returns
  have hts : ∀ w ∈ wsL_law, w.before _ s = true := fun w h => atoms_spec (ws := Cond.code yX6_wetInAll cX6_wetInAll 4 (some .int) :: wsL_law) B.pre w (List.mem_cons_of_mem _ h)
  have hown : s.vm.findClass RX6 = some m.cls := findClass_of_methodNamed B.named
  have hlocks := B.notSynchronized
  have hP : va_P D vwCl [((w 0), .inr (5, [.int 0, .int y, .int 3, .int 8, .int 4, .int 4, .int 0, .int 0, .int 0, .int 0, .int 0, .ref (w 1), .ref (w 2), .ref (w 3), .ref (w 4), .ref (w 5)]))] s.heap := hP
  have hl := lv_entry ([.ref (w 0)]) (n := 4) (Nat.le_of_ble_eq_true rfl)
  rw [lg_entry_eq]
  generalize (lg_sl ([.ref (w 0)]) ++ List.replicate (4 - (lg_sl ([.ref (w 0)])).length) Slot.unset).toArray = ls at hl ⊢
  have hl : lv_has ls 4 [(0, .ref (w 0))] := hl
  refine lv_iconst (v := 0) hx hb dX6_wetInAll_0 (by decide) ?_
  refine lv_istore_n (lv' := [(1, .int 0), (0, .ref (w 0))]) hx hb dX6_wetInAll_1 rfl hl (by decide) rfl (fun ls hl => ?_)
  refine lv_iconst (v := 0) hx hb dX6_wetInAll_2 (by decide) ?_
  refine lv_istore_n (lv' := [(2, .int 0), (1, .int 0), (0, .ref (w 0))]) hx hb dX6_wetInAll_3 rfl hl (by decide) rfl (fun ls hl => ?_)
  refine lv_iload_n hx hb dX6_wetInAll_4 rfl (lv_at hl 0 rfl) ?_
  refine lv_aload_n hx hb dX6_wetInAll_5 rfl (lv_at hl 2 rfl) ?_
  refine va_get (D := D) (ci := 5) (v := .int 0) (C := RX6) (T := TX6) (N := 16) hx hb hts inlX6 hown hK hP 0 rfl rfl 0 (by decide) (hts _ mw_152) (fun _ h9 => h9) rfl dX6_wetInAll_6 ?_
  refine lv_icmp_ge (tgt := 56) hx hb dX6_wetInAll_9 (by decide) (fun _ => ?_) (fun c9 => absurd c9 (by decide))
  refine lv_iload_n hx hb dX6_wetInAll_56 rfl (lv_at hl 1 rfl) ?_
  exact W.iret (v := 0) hx hb hr (fun t ht hW => ⟨0, rfl, rfl, ht⟩) (fun q h => by cases h) dX6_wetInAll_57
set_option maxHeartbeats 4000000 in
set_option maxRecDepth 100000 in
theorem c_W_rainDown (l : Launch) (D : va_G) (k : Nat → ClassId) (w : Nat → Nat) (y : Int32) : Met l yX6_rainDown (Cond.code yX6_rainDown cX6_rainDown 4 (some .int) :: wsL_law) ({ frames := 0, cells := 0, slots := 0, locals := 0 } : Room) (va_Pc [.ref (w 0)] (pr D k [((w 0), .inr (5, [.int 0, .int y, .int 3, .int 8, .int 4, .int 4, .int 0, .int 0, .int 0, .int 0, .int 0, .ref (w 1), .ref (w 2), .ref (w 3), .ref (w 4), .ref (w 5)]))])) (vp_Si (fun rr => rr = 0)) 0 0 (fun _ => False) := by
  refine Met.ofW (cc := cX6_rainDown) (maxL := 4) (ret := (some .int)) (by decide) rfl ?_
  intro p e s m args below meth c s₁ B hml hv
  obtain ⟨rfl, hP, hK⟩ := hv
  have hx := B.exec
  have hb := B.bytes
  have hr := B.returns
  have hts : ∀ w ∈ wsL_law, w.before _ s = true := fun w h => atoms_spec (ws := Cond.code yX6_rainDown cX6_rainDown 4 (some .int) :: wsL_law) B.pre w (List.mem_cons_of_mem _ h)
  have hown : s.vm.findClass RX6 = some m.cls := findClass_of_methodNamed B.named
  have hlocks := B.notSynchronized
  have hP : va_P D vwCl [((w 0), .inr (5, [.int 0, .int y, .int 3, .int 8, .int 4, .int 4, .int 0, .int 0, .int 0, .int 0, .int 0, .ref (w 1), .ref (w 2), .ref (w 3), .ref (w 4), .ref (w 5)]))] s.heap := hP
  have hl := lv_entry ([.ref (w 0)]) (n := 4) (Nat.le_of_ble_eq_true rfl)
  rw [lg_entry_eq]
  generalize (lg_sl ([.ref (w 0)]) ++ List.replicate (4 - (lg_sl ([.ref (w 0)])).length) Slot.unset).toArray = ls at hl ⊢
  have hl : lv_has ls 4 [(0, .ref (w 0))] := hl
  refine lv_iconst (v := 0) hx hb dX6_rainDown_0 (by decide) ?_
  refine lv_istore_n (lv' := [(1, .int 0), (0, .ref (w 0))]) hx hb dX6_rainDown_1 rfl hl (by decide) rfl (fun ls hl => ?_)
  refine lv_iconst (v := 0) hx hb dX6_rainDown_2 (by decide) ?_
  refine lv_istore_n (lv' := [(2, .int 0), (1, .int 0), (0, .ref (w 0))]) hx hb dX6_rainDown_3 rfl hl (by decide) rfl (fun ls hl => ?_)
  refine lv_iload_n hx hb dX6_rainDown_4 rfl (lv_at hl 0 rfl) ?_
  refine lv_aload_n hx hb dX6_rainDown_5 rfl (lv_at hl 2 rfl) ?_
  refine va_get (D := D) (ci := 5) (v := .int 0) (C := RX6) (T := TX6) (N := 16) hx hb hts inlX6 hown hK hP 0 rfl rfl 0 (by decide) (hts _ mw_152) (fun _ h9 => h9) rfl dX6_rainDown_6 ?_
  refine lv_icmp_ge (tgt := 84) hx hb dX6_rainDown_9 (by decide) (fun _ => ?_) (fun c9 => absurd c9 (by decide))
  refine lv_iload_n hx hb dX6_rainDown_84 rfl (lv_at hl 1 rfl) ?_
  exact W.iret (v := 0) hx hb hr (fun t ht hW => ⟨0, rfl, rfl, ht⟩) (fun q h => by cases h) dX6_rainDown_85
set_option maxHeartbeats 4000000 in
set_option maxRecDepth 100000 in
theorem c_W_placeOfSpark (l : Launch) (D : va_G) (k : Nat → ClassId) (w : Nat → Nat) (y : Int32) (j : Int32) : Met l yX6_placeOfSpark (Cond.code yX6_placeOfSpark cX6_placeOfSpark 5 (some .int) :: wsL_law) ({ frames := 0, cells := 0, slots := 0, locals := 0 } : Room) (va_Pc [.ref (w 0), .int j] (pr D k [((w 0), .inr (5, [.int 0, .int y, .int 3, .int 8, .int 4, .int 4, .int 0, .int 0, .int 0, .int 0, .int 0, .ref (w 1), .ref (w 2), .ref (w 3), .ref (w 4), .ref (w 5)]))])) (vp_Si (fun rr => rr = (-1))) 0 0 (fun _ => False) := by
  refine Met.ofW (cc := cX6_placeOfSpark) (maxL := 5) (ret := (some .int)) (by decide) rfl ?_
  intro p e s m args below meth c s₁ B hml hv
  obtain ⟨rfl, hP, hK⟩ := hv
  have hx := B.exec
  have hb := B.bytes
  have hr := B.returns
  have hts : ∀ w ∈ wsL_law, w.before _ s = true := fun w h => atoms_spec (ws := Cond.code yX6_placeOfSpark cX6_placeOfSpark 5 (some .int) :: wsL_law) B.pre w (List.mem_cons_of_mem _ h)
  have hown : s.vm.findClass RX6 = some m.cls := findClass_of_methodNamed B.named
  have hlocks := B.notSynchronized
  have hP : va_P D vwCl [((w 0), .inr (5, [.int 0, .int y, .int 3, .int 8, .int 4, .int 4, .int 0, .int 0, .int 0, .int 0, .int 0, .ref (w 1), .ref (w 2), .ref (w 3), .ref (w 4), .ref (w 5)]))] s.heap := hP
  have hl := lv_entry ([.ref (w 0), .int j]) (n := 5) (Nat.le_of_ble_eq_true rfl)
  rw [lg_entry_eq]
  generalize (lg_sl ([.ref (w 0), .int j]) ++ List.replicate (5 - (lg_sl ([.ref (w 0), .int j])).length) Slot.unset).toArray = ls at hl ⊢
  have hl : lv_has ls 5 [(0, .ref (w 0)), (1, .int j)] := hl
  refine lv_iconst (v := 0) hx hb dX6_placeOfSpark_0 (by decide) ?_
  refine lv_istore_n (lv' := [(2, .int 0), (0, .ref (w 0)), (1, .int j)]) hx hb dX6_placeOfSpark_1 rfl hl (by decide) rfl (fun ls hl => ?_)
  refine lv_iconst (v := 0) hx hb dX6_placeOfSpark_2 (by decide) ?_
  refine lv_istore_n (lv' := [(3, .int 0), (2, .int 0), (0, .ref (w 0)), (1, .int j)]) hx hb dX6_placeOfSpark_3 rfl hl (by decide) rfl (fun ls hl => ?_)
  refine lv_iload_n hx hb dX6_placeOfSpark_4 rfl (lv_at hl 0 rfl) ?_
  refine lv_aload_n hx hb dX6_placeOfSpark_5 rfl (lv_at hl 2 rfl) ?_
  refine va_get (D := D) (ci := 5) (v := .int 0) (C := RX6) (T := TX6) (N := 16) hx hb hts inlX6 hown hK hP 0 rfl rfl 0 (by decide) (hts _ mw_152) (fun _ h9 => h9) rfl dX6_placeOfSpark_6 ?_
  refine lv_icmp_ge (tgt := 67) hx hb dX6_placeOfSpark_9 (by decide) (fun _ => ?_) (fun c9 => absurd c9 (by decide))
  refine lv_iconst (v := (-1)) hx hb dX6_placeOfSpark_67 (by decide) ?_
  exact W.iret (v := (-1)) hx hb hr (fun t ht hW => ⟨(-1), rfl, rfl, ht⟩) (fun q h => by cases h) dX6_placeOfSpark_68
set_option maxHeartbeats 4000000 in
set_option maxRecDepth 100000 in
theorem c_W_yearFault (l : Launch) (D : va_G) (k : Nat → ClassId) (w : Nat → Nat) (x : Int32) : Met l yX6_yearFault (Cond.code yX6_yearFault cX6_yearFault 3 (some .int) :: wsL_law) ({ frames := 1, cells := 0, slots := 0, locals := 60 } : Room) (va_Pc [.ref (w 0), .long x.toInt64] (pr D k [((w 0), .inr (5, [.int 0, .int 0, .int 3, .int 8, .int 4, .int 4, .int 0, .int 0, .int 0, .int 0, .int 0, .ref (w 1), .ref (w 2), .ref (w 3), .ref (w 4), .ref (w 5)]))])) (vp_Si (fun rr => rr = if x.toInt = 0 then 0 else 1)) 0 0 (fun _ => False) := by
  refine Met.ofW (cc := cX6_yearFault) (maxL := 3) (ret := (some .int)) (by decide) rfl ?_
  intro p e s m args below meth c s₁ B hml hv
  obtain ⟨rfl, hP, hK⟩ := hv
  have hx := B.exec
  have hb := B.bytes
  have hr := B.returns
  have hts : ∀ w ∈ wsL_law, w.before _ s = true := fun w h => atoms_spec (ws := Cond.code yX6_yearFault cX6_yearFault 3 (some .int) :: wsL_law) B.pre w (List.mem_cons_of_mem _ h)
  have hown : s.vm.findClass RX6 = some m.cls := findClass_of_methodNamed B.named
  have hlocks := B.notSynchronized
  have hP : va_P D vwCl [((w 0), .inr (5, [.int 0, .int 0, .int 3, .int 8, .int 4, .int 4, .int 0, .int 0, .int 0, .int 0, .int 0, .ref (w 1), .ref (w 2), .ref (w 3), .ref (w 4), .ref (w 5)]))] s.heap := hP
  have hl := lv_entry ([.ref (w 0), .long x.toInt64]) (n := 3) (Nat.le_of_ble_eq_true rfl)
  rw [lg_entry_eq]
  generalize (lg_sl ([.ref (w 0), .long x.toInt64]) ++ List.replicate (3 - (lg_sl ([.ref (w 0), .long x.toInt64])).length) Slot.unset).toArray = ls at hl ⊢
  have hl : lv_has ls 3 [(0, .ref (w 0)), (1, .long x.toInt64)] := hl
  refine lv_lload_n hx hb dX6_yearFault_0 rfl (lv_at hl 1 rfl) ?_
  refine lv_aload_n hx hb dX6_yearFault_1 rfl (lv_at hl 0 rfl) ?_
  refine kV_i (q0 := 0) (As := []) (rest := [.long x.toInt64]) (cs := [((w 0), .inr (5, [.int 0, .int 0, .int 3, .int 8, .int 4, .int 4, .int 0, .int 0, .int 0, .int 0, .int 0, .ref (w 1), .ref (w 2), .ref (w 3), .ref (w 4), .ref (w 5)]))]) ⟨hx, hb, hml, hown, hts⟩ (c_W_allRoofs l D k _ 0) (gV mw_474 mw_475 mw_476 mw_19 mw_477) hd_yX6_allRoofs rfl rfl ⟨Nat.le_of_ble_eq_true rfl, Nat.le_of_ble_eq_true rfl⟩ hK (hP.sub (ws' := [((w 0), .inr (5, [.int 0, .int 0, .int 3, .int 8, .int 4, .int 4, .int 0, .int 0, .int 0, .int 0, .int 0, .ref (w 1), .ref (w 2), .ref (w 3), .ref (w 4), .ref (w 5)]))]) [0] rfl) rfl rfl rfl rfl hl.1 rfl (Nat.le_of_ble_eq_true rfl) dX6_yearFault_2 ⟨Nat.le_of_ble_eq_true rfl, Nat.le_of_ble_eq_true rfl⟩ (fun r_1 hr_1 => ?_)
  obtain rfl : r_1 = 0 := hr_1
  refine lv_i2l (v := 0) hx hb dX6_yearFault_5 (by decide) ?_
  refine lv_ldc2 (own := RX6) (index := 118) (v := (-1)) hx hb hown (hts _ mw_473) dX6_yearFault_6 ?_
  refine lv_lxor hx hb dX6_yearFault_9 ?_
  refine lv_nl (v := (-1)) (by decide) ?_
  refine lv_land hx hb dX6_yearFault_10 ?_
  refine lv_nl (v := x.toInt64) (land_m1 _) ?_
  refine lv_lconst (v := 0) hx hb dX6_yearFault_11 (by decide) ?_
  refine W.lcmp hx hb dX6_yearFault_12 ?_
  rcases lg3 x.toInt64 0 with ⟨h_2, eh_2⟩ | ⟨h_2, eh_2⟩ | ⟨h_2, eh_2⟩
  · have h_2 : x.toInt < 0 := by have q := Int32.toInt_toInt64 x; rw [← q]; exact h_2
    refine lv_ni (v := (-1)) eh_2 ?_
    refine lv_if_eq (tgt := 18) hx hb dX6_yearFault_13 (by decide) (fun c9 => absurd c9 (by decide)) (fun _ => ?_)
    refine lv_iconst (v := 1) hx hb dX6_yearFault_16 (by decide) ?_
    exact W.iret (v := 1) hx hb hr (fun t ht hW => ⟨1, rfl, (by (repeat' split) <;> first | rfl | (exfalso; omega)), ht⟩) (fun q h => by cases h) dX6_yearFault_17
  · have h_2 : x.toInt = 0 := by have q := Int32.toInt_toInt64 x; rw [← q]; exact h_2
    refine lv_ni (v := 0) eh_2 ?_
    refine lv_if_eq (tgt := 18) hx hb dX6_yearFault_13 (by decide) (fun _ => ?_) (fun c9 => absurd c9 (by decide))
    refine lv_lload_n hx hb dX6_yearFault_18 rfl (lv_at hl 1 rfl) ?_
    refine lv_aload_n hx hb dX6_yearFault_19 rfl (lv_at hl 0 rfl) ?_
    refine va_get (D := D) (ci := 5) (v := .int 0) (C := RX6) (T := TX6) (N := 16) hx hb hts inlX6 hown hK hP 0 rfl rfl 7 (by decide) (hts _ mw_155) (fun _ h9 => h9) rfl dX6_yearFault_20 ?_
    refine lv_i2l (v := 0) hx hb dX6_yearFault_23 (by decide) ?_
    refine lv_land hx hb dX6_yearFault_24 ?_
    refine lv_nl (v := 0) (land_0 _) ?_
    refine lv_lconst (v := 0) hx hb dX6_yearFault_25 (by decide) ?_
    refine W.lcmp hx hb dX6_yearFault_26 ?_
    refine lv_ni (v := 0) (by decide) ?_
    refine lv_if_eq (tgt := 32) hx hb dX6_yearFault_27 (by decide) (fun _ => ?_) (fun c9 => absurd c9 (by decide))
    refine lv_aload_n hx hb dX6_yearFault_32 rfl (lv_at hl 0 rfl) ?_
    refine va_get (D := D) (ci := 5) (v := .int 0) (C := RX6) (T := TX6) (N := 16) hx hb hts inlX6 hown hK hP 0 rfl rfl 1 (by decide) (hts _ mw_153) (fun _ h9 => h9) rfl dX6_yearFault_33 ?_
    refine lv_sipush (v := 999) hx hb dX6_yearFault_36 (by decide) ?_
    refine lv_icmp_lt (tgt := 46) hx hb dX6_yearFault_39 (by decide) (fun _ => ?_) (fun c9 => absurd c9 (by decide))
    refine lv_iconst (v := 0) hx hb dX6_yearFault_46 (by decide) ?_
    exact W.iret (v := 0) hx hb hr (fun t ht hW => ⟨0, rfl, (by (repeat' split) <;> first | rfl | (exfalso; omega)), ht⟩) (fun q h => by cases h) dX6_yearFault_47
  · have h_2 : x.toInt > 0 := by have q := Int32.toInt_toInt64 x; rw [← q]; exact h_2
    refine lv_ni (v := 1) eh_2 ?_
    refine lv_if_eq (tgt := 18) hx hb dX6_yearFault_13 (by decide) (fun c9 => absurd c9 (by decide)) (fun _ => ?_)
    refine lv_iconst (v := 1) hx hb dX6_yearFault_16 (by decide) ?_
    exact W.iret (v := 1) hx hb hr (fun t ht hW => ⟨1, rfl, (by (repeat' split) <;> first | rfl | (exfalso; omega)), ht⟩) (fun q h => by cases h) dX6_yearFault_17
set_option maxHeartbeats 4000000 in
set_option maxRecDepth 100000 in
theorem c_W_maySkip (l : Launch) (D : va_G) (k : Nat → ClassId) (w : Nat → Nat) (x : Int32) : Met l yX6_maySkip (Cond.code yX6_maySkip cX6_maySkip 3 (some .boolean) :: wsL_law) ({ frames := 2, cells := 0, slots := 0, locals := 120 } : Room) (va_Pc [.ref (w 0), .int x] (pr D k [((w 0), .inr (5, [.int 0, .int 0, .int 3, .int 8, .int 4, .int 4, .int 0, .int 0, .int 0, .int 0, .int 0, .ref (w 1), .ref (w 2), .ref (w 3), .ref (w 4), .ref (w 5)]))])) (vp_Si (fun rr => rr = if x.toInt = 0 then 1 else 0)) 0 0 (fun _ => False) := by
  refine Met.ofW (cc := cX6_maySkip) (maxL := 3) (ret := (some .boolean)) (by decide) rfl ?_
  intro p e s m args below meth c s₁ B hml hv
  obtain ⟨rfl, hP, hK⟩ := hv
  have hx := B.exec
  have hb := B.bytes
  have hr := B.returns
  have hts : ∀ w ∈ wsL_law, w.before _ s = true := fun w h => atoms_spec (ws := Cond.code yX6_maySkip cX6_maySkip 3 (some .boolean) :: wsL_law) B.pre w (List.mem_cons_of_mem _ h)
  have hown : s.vm.findClass RX6 = some m.cls := findClass_of_methodNamed B.named
  have hlocks := B.notSynchronized
  have hP : va_P D vwCl [((w 0), .inr (5, [.int 0, .int 0, .int 3, .int 8, .int 4, .int 4, .int 0, .int 0, .int 0, .int 0, .int 0, .ref (w 1), .ref (w 2), .ref (w 3), .ref (w 4), .ref (w 5)]))] s.heap := hP
  have hl := lv_entry ([.ref (w 0), .int x]) (n := 3) (Nat.le_of_ble_eq_true rfl)
  rw [lg_entry_eq]
  generalize (lg_sl ([.ref (w 0), .int x]) ++ List.replicate (3 - (lg_sl ([.ref (w 0), .int x])).length) Slot.unset).toArray = ls at hl ⊢
  have hl : lv_has ls 3 [(0, .ref (w 0)), (1, .int x)] := hl
  refine lv_aload_n hx hb dX6_maySkip_0 rfl (lv_at hl 0 rfl) ?_
  refine lv_iload_n hx hb dX6_maySkip_1 rfl (lv_at hl 1 rfl) ?_
  refine lv_i2l (v := x.toInt64) hx hb dX6_maySkip_2 rfl ?_
  refine kV_i (q0 := 0) (As := [.long x.toInt64]) (rest := []) (cs := [((w 0), .inr (5, [.int 0, .int 0, .int 3, .int 8, .int 4, .int 4, .int 0, .int 0, .int 0, .int 0, .int 0, .ref (w 1), .ref (w 2), .ref (w 3), .ref (w 4), .ref (w 5)]))]) ⟨hx, hb, hml, hown, hts⟩ (c_W_yearFault l D k _ x) (gV mw_469 mw_470 mw_471 mw_19 mw_472) hd_yX6_yearFault rfl rfl ⟨Nat.le_of_ble_eq_true rfl, Nat.le_of_ble_eq_true rfl⟩ hK (hP.sub (ws' := [((w 0), .inr (5, [.int 0, .int 0, .int 3, .int 8, .int 4, .int 4, .int 0, .int 0, .int 0, .int 0, .int 0, .ref (w 1), .ref (w 2), .ref (w 3), .ref (w 4), .ref (w 5)]))]) [0] rfl) rfl rfl rfl rfl hl.1 rfl (Nat.le_of_ble_eq_true rfl) dX6_maySkip_3 ⟨Nat.le_of_ble_eq_true rfl, Nat.le_of_ble_eq_true rfl⟩ (fun r_1 hr_1 => ?_)
  by_cases hc_2 : x.toInt = 0
  · obtain rfl : r_1 = 0 := hr_1.trans (if_pos hc_2)
    have q_3 : x = 0 := ti_of (show x.toInt = 0 from by omega)
    refine lv_istore_n (lv' := [(2, .int 0), (0, .ref (w 0)), (1, .int x)]) hx hb dX6_maySkip_6 rfl hl (by decide) rfl (fun ls hl => ?_)
    refine lv_iload_n hx hb dX6_maySkip_7 rfl (lv_at hl 0 rfl) ?_
    refine lv_iconst (v := 1) hx hb dX6_maySkip_8 (by decide) ?_
    refine lv_icmp_eq (tgt := 21) hx hb dX6_maySkip_9 (by decide) (fun c9 => absurd c9 (by decide)) (fun _ => ?_)
    refine lv_iload_n hx hb dX6_maySkip_12 rfl (lv_at hl 0 rfl) ?_
    refine lv_iconst (v := 2) hx hb dX6_maySkip_13 (by decide) ?_
    refine lv_icmp_eq (tgt := 21) hx hb dX6_maySkip_14 (by decide) (fun c9 => absurd c9 (by decide)) (fun _ => ?_)
    refine lv_iconst (v := 1) hx hb dX6_maySkip_17 (by decide) ?_
    refine lv_goto (tgt := 22) hx hb dX6_maySkip_18 (by decide) ?_
    exact W.zret (v := 1) hx hb hr rfl (fun t ht hW => ⟨1, rfl, (by (repeat' split) <;> first | rfl | (exfalso; omega)), ht⟩) (fun q h => by cases h) dX6_maySkip_22
  have hr_1 := hr_1.trans (if_neg hc_2)
  obtain rfl : r_1 = 1 := hr_1
  refine lv_istore_n (lv' := [(2, .int 1), (0, .ref (w 0)), (1, .int x)]) hx hb dX6_maySkip_6 rfl hl (by decide) rfl (fun ls hl => ?_)
  refine lv_iload_n hx hb dX6_maySkip_7 rfl (lv_at hl 0 rfl) ?_
  refine lv_iconst (v := 1) hx hb dX6_maySkip_8 (by decide) ?_
  refine lv_icmp_eq (tgt := 21) hx hb dX6_maySkip_9 (by decide) (fun _ => ?_) (fun c9 => absurd c9 (by decide))
  refine lv_iconst (v := 0) hx hb dX6_maySkip_21 (by decide) ?_
  exact W.zret (v := 0) hx hb hr rfl (fun t ht hW => ⟨0, rfl, (by (repeat' split) <;> first | rfl | (exfalso; omega)), ht⟩) (fun q h => by cases h) dX6_maySkip_22
set_option maxHeartbeats 4000000 in
set_option maxRecDepth 100000 in
theorem c_W_copyFrom (l : Launch) (D : va_G) (k : Nat → ClassId) (w : Nat → Nat) (v : Nat → Nat) (y : Int32) (z : Int32) (sz : Nat) : Met l yX6_copyFrom (Cond.code yX6_copyFrom cX6_copyFrom 2 none :: wsL_law) ({ frames := 1, cells := 0, slots := 0, locals := 60 } : Room) (va_Pc [.ref (w 0), .ref (v 0)] (pu D k sz [((w 0), .inr (5, [.int 0, .int y, .int 3, .int 8, .int 4, .int 4, .int 0, .int 0, .int 0, .int 0, .int 0, .ref (w 1), .ref (w 2), .ref (w 3), .ref (w 4), .ref (w 5)])), ((w 1), .inl (k 0, 10, .inl (fun _ => 0))), ((w 2), .inl (k 0, 10, .inl (fun _ => 0))), ((w 3), .inl (k 0, 60, .inl (fun _ => 0))), ((v 0), .inr (5, [.int 0, .int z, .int 3, .int 8, .int 4, .int 4, .int 0, .int 0, .int 0, .int 0, .int 0, .ref (v 1), .ref (v 2), .ref (v 3), .ref (v 4), .ref (v 5)])), ((v 1), .inl (k 0, 10, .inl (fun _ => 0))), ((v 2), .inl (k 0, 10, .inl (fun _ => 0))), ((v 3), .inl (k 0, 60, .inl (fun _ => 0)))])) (va_Qv (fun uu : Unit => True) (qu D (va_A [((w 0), .inr (5, [.int 0, .int y, .int 3, .int 8, .int 4, .int 4, .int 0, .int 0, .int 0, .int 0, .int 0, .ref (w 1), .ref (w 2), .ref (w 3), .ref (w 4), .ref (w 5)])), ((w 1), .inl (k 0, 10, .inl (fun _ => 0))), ((w 2), .inl (k 0, 10, .inl (fun _ => 0))), ((w 3), .inl (k 0, 60, .inl (fun _ => 0))), ((v 0), .inr (5, [.int 0, .int z, .int 3, .int 8, .int 4, .int 4, .int 0, .int 0, .int 0, .int 0, .int 0, .ref (v 1), .ref (v 2), .ref (v 3), .ref (v 4), .ref (v 5)])), ((v 1), .inl (k 0, 10, .inl (fun _ => 0))), ((v 2), .inl (k 0, 10, .inl (fun _ => 0))), ((v 3), .inl (k 0, 60, .inl (fun _ => 0)))] sz) (fun uu : Unit => [((w 0), .inr (5, [.int 0, .int z, .int 3, .int 8, .int 4, .int 4, .int 0, .int 0, .int 0, .int 0, .int 0, .ref (w 1), .ref (w 2), .ref (w 3), .ref (w 4), .ref (w 5)])), ((w 1), .inl (k 0, 10, .inl (fun _ => 0))), ((w 2), .inl (k 0, 10, .inl (fun _ => 0))), ((w 3), .inl (k 0, 60, .inl (fun _ => 0))), ((v 0), .inr (5, [.int 0, .int z, .int 3, .int 8, .int 4, .int 4, .int 0, .int 0, .int 0, .int 0, .int 0, .ref (v 1), .ref (v 2), .ref (v 3), .ref (v 4), .ref (v 5)])), ((v 1), .inl (k 0, 10, .inl (fun _ => 0))), ((v 2), .inl (k 0, 10, .inl (fun _ => 0))), ((v 3), .inl (k 0, 60, .inl (fun _ => 0)))])) (va_A [((w 0), .inr (5, [.int 0, .int y, .int 3, .int 8, .int 4, .int 4, .int 0, .int 0, .int 0, .int 0, .int 0, .ref (w 1), .ref (w 2), .ref (w 3), .ref (w 4), .ref (w 5)])), ((w 1), .inl (k 0, 10, .inl (fun _ => 0))), ((w 2), .inl (k 0, 10, .inl (fun _ => 0))), ((w 3), .inl (k 0, 60, .inl (fun _ => 0))), ((v 0), .inr (5, [.int 0, .int z, .int 3, .int 8, .int 4, .int 4, .int 0, .int 0, .int 0, .int 0, .int 0, .ref (v 1), .ref (v 2), .ref (v 3), .ref (v 4), .ref (v 5)])), ((v 1), .inl (k 0, 10, .inl (fun _ => 0))), ((v 2), .inl (k 0, 10, .inl (fun _ => 0))), ((v 3), .inl (k 0, 60, .inl (fun _ => 0)))] sz)) 0 0 (va_A [((w 0), .inr (5, [.int 0, .int y, .int 3, .int 8, .int 4, .int 4, .int 0, .int 0, .int 0, .int 0, .int 0, .ref (w 1), .ref (w 2), .ref (w 3), .ref (w 4), .ref (w 5)])), ((w 1), .inl (k 0, 10, .inl (fun _ => 0))), ((w 2), .inl (k 0, 10, .inl (fun _ => 0))), ((w 3), .inl (k 0, 60, .inl (fun _ => 0))), ((v 0), .inr (5, [.int 0, .int z, .int 3, .int 8, .int 4, .int 4, .int 0, .int 0, .int 0, .int 0, .int 0, .ref (v 1), .ref (v 2), .ref (v 3), .ref (v 4), .ref (v 5)])), ((v 1), .inl (k 0, 10, .inl (fun _ => 0))), ((v 2), .inl (k 0, 10, .inl (fun _ => 0))), ((v 3), .inl (k 0, 60, .inl (fun _ => 0)))] sz) := by
  refine Met.ofW (cc := cX6_copyFrom) (maxL := 2) (ret := none) (by decide) rfl ?_
  intro p e s m args below meth c s₁ B hml hv
  obtain ⟨rfl, hsz, hP, hK, hD0⟩ := hv
  have hx := B.exec
  have hb := B.bytes
  have hr := B.returns
  have hts : ∀ w ∈ wsL_law, w.before _ s = true := fun w h => atoms_spec (ws := Cond.code yX6_copyFrom cX6_copyFrom 2 none :: wsL_law) B.pre w (List.mem_cons_of_mem _ h)
  have hown : s.vm.findClass RX6 = some m.cls := findClass_of_methodNamed B.named
  have hlocks := B.notSynchronized
  subst hsz
  have hD := hD0.self (sz := s.heap.size)
  generalize hAe : va_A [((w 0), .inr (5, [.int 0, .int y, .int 3, .int 8, .int 4, .int 4, .int 0, .int 0, .int 0, .int 0, .int 0, .ref (w 1), .ref (w 2), .ref (w 3), .ref (w 4), .ref (w 5)])), ((w 1), .inl (k 0, 10, .inl (fun _ => 0))), ((w 2), .inl (k 0, 10, .inl (fun _ => 0))), ((w 3), .inl (k 0, 60, .inl (fun _ => 0))), ((v 0), .inr (5, [.int 0, .int z, .int 3, .int 8, .int 4, .int 4, .int 0, .int 0, .int 0, .int 0, .int 0, .ref (v 1), .ref (v 2), .ref (v 3), .ref (v 4), .ref (v 5)])), ((v 1), .inl (k 0, 10, .inl (fun _ => 0))), ((v 2), .inl (k 0, 10, .inl (fun _ => 0))), ((v 3), .inl (k 0, 60, .inl (fun _ => 0)))] s.heap.size = A at hD ⊢
  have hA : ∀ q : Nat, s.heap.size ≤ q → A q := fun q h => by rw [← hAe]; exact Or.inr h
  have hS : va_S A s.heap s.heap [] := va_S.rf
  have hP : va_P D vwCl [((w 0), .inr (5, [.int 0, .int y, .int 3, .int 8, .int 4, .int 4, .int 0, .int 0, .int 0, .int 0, .int 0, .ref (w 1), .ref (w 2), .ref (w 3), .ref (w 4), .ref (w 5)])), ((w 1), .inl (k 0, 10, .inl (fun _ => 0))), ((w 2), .inl (k 0, 10, .inl (fun _ => 0))), ((w 3), .inl (k 0, 60, .inl (fun _ => 0))), ((v 0), .inr (5, [.int 0, .int z, .int 3, .int 8, .int 4, .int 4, .int 0, .int 0, .int 0, .int 0, .int 0, .ref (v 1), .ref (v 2), .ref (v 3), .ref (v 4), .ref (v 5)])), ((v 1), .inl (k 0, 10, .inl (fun _ => 0))), ((v 2), .inl (k 0, 10, .inl (fun _ => 0))), ((v 3), .inl (k 0, 60, .inl (fun _ => 0)))] s.heap := hP
  have hl := lv_entry ([.ref (w 0), .ref (v 0)]) (n := 2) (Nat.le_of_ble_eq_true rfl)
  rw [lg_entry_eq]
  generalize (lg_sl ([.ref (w 0), .ref (v 0)]) ++ List.replicate (2 - (lg_sl ([.ref (w 0), .ref (v 0)])).length) Slot.unset).toArray = ls at hl ⊢
  have hl : lv_has ls 2 [(0, .ref (w 0)), (1, .ref (v 0))] := hl
  refine lv_aload_n hx hb dX6_copyFrom_0 rfl (lv_at hl 0 rfl) ?_
  refine lv_aload_n hx hb dX6_copyFrom_1 rfl (lv_at hl 1 rfl) ?_
  refine va_get (D := D) (ci := 5) (v := .int 0) (C := RX6) (T := TX6) (N := 16) hx hb hts inlX6 hown hK hP 4 rfl rfl 0 (by decide) (hts _ mw_152) (fun _ h9 => h9) rfl dX6_copyFrom_2 ?_
  refine va_put (D := D) (ci := 5) (v := .int 0) (ty := .int) (C := RX6) (T := TX6) (N := 16) hx hb hts inlX6 tyX6 tyX6_ok nmX6 hown hK hP hD hS 0 rfl rfl 0 (by decide) (hts _ mw_152) (fun _ h9 => h9) rfl (by decide +kernel) rfl rfl (Nat.le_of_ble_eq_true rfl) dX6_copyFrom_5 (fun H locs hP hD hS => ?_)
  have hP : va_P D vwCl [((w 0), .inr (5, [.int 0, .int y, .int 3, .int 8, .int 4, .int 4, .int 0, .int 0, .int 0, .int 0, .int 0, .ref (w 1), .ref (w 2), .ref (w 3), .ref (w 4), .ref (w 5)])), ((w 1), .inl (k 0, 10, .inl (fun _ => 0))), ((w 2), .inl (k 0, 10, .inl (fun _ => 0))), ((w 3), .inl (k 0, 60, .inl (fun _ => 0))), ((v 0), .inr (5, [.int 0, .int z, .int 3, .int 8, .int 4, .int 4, .int 0, .int 0, .int 0, .int 0, .int 0, .ref (v 1), .ref (v 2), .ref (v 3), .ref (v 4), .ref (v 5)])), ((v 1), .inl (k 0, 10, .inl (fun _ => 0))), ((v 2), .inl (k 0, 10, .inl (fun _ => 0))), ((v 3), .inl (k 0, 60, .inl (fun _ => 0)))] H := hP
  have hD : va_D A [((w 0), .inr (5, [.int 0, .int y, .int 3, .int 8, .int 4, .int 4, .int 0, .int 0, .int 0, .int 0, .int 0, .ref (w 1), .ref (w 2), .ref (w 3), .ref (w 4), .ref (w 5)])), ((w 1), .inl (k 0, 10, .inl (fun _ => 0))), ((w 2), .inl (k 0, 10, .inl (fun _ => 0))), ((w 3), .inl (k 0, 60, .inl (fun _ => 0))), ((v 0), .inr (5, [.int 0, .int z, .int 3, .int 8, .int 4, .int 4, .int 0, .int 0, .int 0, .int 0, .int 0, .ref (v 1), .ref (v 2), .ref (v 3), .ref (v 4), .ref (v 5)])), ((v 1), .inl (k 0, 10, .inl (fun _ => 0))), ((v 2), .inl (k 0, 10, .inl (fun _ => 0))), ((v 3), .inl (k 0, 60, .inl (fun _ => 0)))] := hD
  refine lv_aload_n hx hb dX6_copyFrom_8 rfl (lv_at hl 0 rfl) ?_
  refine lv_aload_n hx hb dX6_copyFrom_9 rfl (lv_at hl 1 rfl) ?_
  refine va_get (D := D) (ci := 5) (v := .int z) (C := RX6) (T := TX6) (N := 16) hx hb hts inlX6 hown hK hP 4 rfl rfl 1 (by decide) (hts _ mw_153) (fun _ h9 => h9) rfl dX6_copyFrom_10 ?_
  refine va_put (D := D) (ci := 5) (v := .int z) (ty := .int) (C := RX6) (T := TX6) (N := 16) hx hb hts inlX6 tyX6 tyX6_ok nmX6 hown hK hP hD hS 0 rfl rfl 1 (by decide) (hts _ mw_153) (fun _ h9 => h9) rfl (by decide +kernel) rfl rfl (Nat.le_of_ble_eq_true rfl) dX6_copyFrom_13 (fun H locs hP hD hS => ?_)
  have hP : va_P D vwCl [((w 0), .inr (5, [.int 0, .int z, .int 3, .int 8, .int 4, .int 4, .int 0, .int 0, .int 0, .int 0, .int 0, .ref (w 1), .ref (w 2), .ref (w 3), .ref (w 4), .ref (w 5)])), ((w 1), .inl (k 0, 10, .inl (fun _ => 0))), ((w 2), .inl (k 0, 10, .inl (fun _ => 0))), ((w 3), .inl (k 0, 60, .inl (fun _ => 0))), ((v 0), .inr (5, [.int 0, .int z, .int 3, .int 8, .int 4, .int 4, .int 0, .int 0, .int 0, .int 0, .int 0, .ref (v 1), .ref (v 2), .ref (v 3), .ref (v 4), .ref (v 5)])), ((v 1), .inl (k 0, 10, .inl (fun _ => 0))), ((v 2), .inl (k 0, 10, .inl (fun _ => 0))), ((v 3), .inl (k 0, 60, .inl (fun _ => 0)))] H := hP
  have hD : va_D A [((w 0), .inr (5, [.int 0, .int z, .int 3, .int 8, .int 4, .int 4, .int 0, .int 0, .int 0, .int 0, .int 0, .ref (w 1), .ref (w 2), .ref (w 3), .ref (w 4), .ref (w 5)])), ((w 1), .inl (k 0, 10, .inl (fun _ => 0))), ((w 2), .inl (k 0, 10, .inl (fun _ => 0))), ((w 3), .inl (k 0, 60, .inl (fun _ => 0))), ((v 0), .inr (5, [.int 0, .int z, .int 3, .int 8, .int 4, .int 4, .int 0, .int 0, .int 0, .int 0, .int 0, .ref (v 1), .ref (v 2), .ref (v 3), .ref (v 4), .ref (v 5)])), ((v 1), .inl (k 0, 10, .inl (fun _ => 0))), ((v 2), .inl (k 0, 10, .inl (fun _ => 0))), ((v 3), .inl (k 0, 60, .inl (fun _ => 0)))] := hD
  refine lv_aload_n hx hb dX6_copyFrom_16 rfl (lv_at hl 0 rfl) ?_
  refine lv_aload_n hx hb dX6_copyFrom_17 rfl (lv_at hl 1 rfl) ?_
  refine va_get (D := D) (ci := 5) (v := .int 3) (C := RX6) (T := TX6) (N := 16) hx hb hts inlX6 hown hK hP 4 rfl rfl 2 (by decide) (hts _ mw_54) (fun _ h9 => h9) rfl dX6_copyFrom_18 ?_
  refine va_put (D := D) (ci := 5) (v := .int 3) (ty := .int) (C := RX6) (T := TX6) (N := 16) hx hb hts inlX6 tyX6 tyX6_ok nmX6 hown hK hP hD hS 0 rfl rfl 2 (by decide) (hts _ mw_54) (fun _ h9 => h9) rfl (by decide +kernel) rfl rfl (Nat.le_of_ble_eq_true rfl) dX6_copyFrom_21 (fun H locs hP hD hS => ?_)
  have hP : va_P D vwCl [((w 0), .inr (5, [.int 0, .int z, .int 3, .int 8, .int 4, .int 4, .int 0, .int 0, .int 0, .int 0, .int 0, .ref (w 1), .ref (w 2), .ref (w 3), .ref (w 4), .ref (w 5)])), ((w 1), .inl (k 0, 10, .inl (fun _ => 0))), ((w 2), .inl (k 0, 10, .inl (fun _ => 0))), ((w 3), .inl (k 0, 60, .inl (fun _ => 0))), ((v 0), .inr (5, [.int 0, .int z, .int 3, .int 8, .int 4, .int 4, .int 0, .int 0, .int 0, .int 0, .int 0, .ref (v 1), .ref (v 2), .ref (v 3), .ref (v 4), .ref (v 5)])), ((v 1), .inl (k 0, 10, .inl (fun _ => 0))), ((v 2), .inl (k 0, 10, .inl (fun _ => 0))), ((v 3), .inl (k 0, 60, .inl (fun _ => 0)))] H := hP
  have hD : va_D A [((w 0), .inr (5, [.int 0, .int z, .int 3, .int 8, .int 4, .int 4, .int 0, .int 0, .int 0, .int 0, .int 0, .ref (w 1), .ref (w 2), .ref (w 3), .ref (w 4), .ref (w 5)])), ((w 1), .inl (k 0, 10, .inl (fun _ => 0))), ((w 2), .inl (k 0, 10, .inl (fun _ => 0))), ((w 3), .inl (k 0, 60, .inl (fun _ => 0))), ((v 0), .inr (5, [.int 0, .int z, .int 3, .int 8, .int 4, .int 4, .int 0, .int 0, .int 0, .int 0, .int 0, .ref (v 1), .ref (v 2), .ref (v 3), .ref (v 4), .ref (v 5)])), ((v 1), .inl (k 0, 10, .inl (fun _ => 0))), ((v 2), .inl (k 0, 10, .inl (fun _ => 0))), ((v 3), .inl (k 0, 60, .inl (fun _ => 0)))] := hD
  refine lv_aload_n hx hb dX6_copyFrom_24 rfl (lv_at hl 0 rfl) ?_
  refine lv_aload_n hx hb dX6_copyFrom_25 rfl (lv_at hl 1 rfl) ?_
  refine va_get (D := D) (ci := 5) (v := .int 8) (C := RX6) (T := TX6) (N := 16) hx hb hts inlX6 hown hK hP 4 rfl rfl 3 (by decide) (hts _ mw_55) (fun _ h9 => h9) rfl dX6_copyFrom_26 ?_
  refine va_put (D := D) (ci := 5) (v := .int 8) (ty := .int) (C := RX6) (T := TX6) (N := 16) hx hb hts inlX6 tyX6 tyX6_ok nmX6 hown hK hP hD hS 0 rfl rfl 3 (by decide) (hts _ mw_55) (fun _ h9 => h9) rfl (by decide +kernel) rfl rfl (Nat.le_of_ble_eq_true rfl) dX6_copyFrom_29 (fun H locs hP hD hS => ?_)
  have hP : va_P D vwCl [((w 0), .inr (5, [.int 0, .int z, .int 3, .int 8, .int 4, .int 4, .int 0, .int 0, .int 0, .int 0, .int 0, .ref (w 1), .ref (w 2), .ref (w 3), .ref (w 4), .ref (w 5)])), ((w 1), .inl (k 0, 10, .inl (fun _ => 0))), ((w 2), .inl (k 0, 10, .inl (fun _ => 0))), ((w 3), .inl (k 0, 60, .inl (fun _ => 0))), ((v 0), .inr (5, [.int 0, .int z, .int 3, .int 8, .int 4, .int 4, .int 0, .int 0, .int 0, .int 0, .int 0, .ref (v 1), .ref (v 2), .ref (v 3), .ref (v 4), .ref (v 5)])), ((v 1), .inl (k 0, 10, .inl (fun _ => 0))), ((v 2), .inl (k 0, 10, .inl (fun _ => 0))), ((v 3), .inl (k 0, 60, .inl (fun _ => 0)))] H := hP
  have hD : va_D A [((w 0), .inr (5, [.int 0, .int z, .int 3, .int 8, .int 4, .int 4, .int 0, .int 0, .int 0, .int 0, .int 0, .ref (w 1), .ref (w 2), .ref (w 3), .ref (w 4), .ref (w 5)])), ((w 1), .inl (k 0, 10, .inl (fun _ => 0))), ((w 2), .inl (k 0, 10, .inl (fun _ => 0))), ((w 3), .inl (k 0, 60, .inl (fun _ => 0))), ((v 0), .inr (5, [.int 0, .int z, .int 3, .int 8, .int 4, .int 4, .int 0, .int 0, .int 0, .int 0, .int 0, .ref (v 1), .ref (v 2), .ref (v 3), .ref (v 4), .ref (v 5)])), ((v 1), .inl (k 0, 10, .inl (fun _ => 0))), ((v 2), .inl (k 0, 10, .inl (fun _ => 0))), ((v 3), .inl (k 0, 60, .inl (fun _ => 0)))] := hD
  refine lv_aload_n hx hb dX6_copyFrom_32 rfl (lv_at hl 0 rfl) ?_
  refine lv_aload_n hx hb dX6_copyFrom_33 rfl (lv_at hl 1 rfl) ?_
  refine va_get (D := D) (ci := 5) (v := .int 4) (C := RX6) (T := TX6) (N := 16) hx hb hts inlX6 hown hK hP 4 rfl rfl 4 (by decide) (hts _ mw_56) (fun _ h9 => h9) rfl dX6_copyFrom_34 ?_
  refine va_put (D := D) (ci := 5) (v := .int 4) (ty := .int) (C := RX6) (T := TX6) (N := 16) hx hb hts inlX6 tyX6 tyX6_ok nmX6 hown hK hP hD hS 0 rfl rfl 4 (by decide) (hts _ mw_56) (fun _ h9 => h9) rfl (by decide +kernel) rfl rfl (Nat.le_of_ble_eq_true rfl) dX6_copyFrom_37 (fun H locs hP hD hS => ?_)
  have hP : va_P D vwCl [((w 0), .inr (5, [.int 0, .int z, .int 3, .int 8, .int 4, .int 4, .int 0, .int 0, .int 0, .int 0, .int 0, .ref (w 1), .ref (w 2), .ref (w 3), .ref (w 4), .ref (w 5)])), ((w 1), .inl (k 0, 10, .inl (fun _ => 0))), ((w 2), .inl (k 0, 10, .inl (fun _ => 0))), ((w 3), .inl (k 0, 60, .inl (fun _ => 0))), ((v 0), .inr (5, [.int 0, .int z, .int 3, .int 8, .int 4, .int 4, .int 0, .int 0, .int 0, .int 0, .int 0, .ref (v 1), .ref (v 2), .ref (v 3), .ref (v 4), .ref (v 5)])), ((v 1), .inl (k 0, 10, .inl (fun _ => 0))), ((v 2), .inl (k 0, 10, .inl (fun _ => 0))), ((v 3), .inl (k 0, 60, .inl (fun _ => 0)))] H := hP
  have hD : va_D A [((w 0), .inr (5, [.int 0, .int z, .int 3, .int 8, .int 4, .int 4, .int 0, .int 0, .int 0, .int 0, .int 0, .ref (w 1), .ref (w 2), .ref (w 3), .ref (w 4), .ref (w 5)])), ((w 1), .inl (k 0, 10, .inl (fun _ => 0))), ((w 2), .inl (k 0, 10, .inl (fun _ => 0))), ((w 3), .inl (k 0, 60, .inl (fun _ => 0))), ((v 0), .inr (5, [.int 0, .int z, .int 3, .int 8, .int 4, .int 4, .int 0, .int 0, .int 0, .int 0, .int 0, .ref (v 1), .ref (v 2), .ref (v 3), .ref (v 4), .ref (v 5)])), ((v 1), .inl (k 0, 10, .inl (fun _ => 0))), ((v 2), .inl (k 0, 10, .inl (fun _ => 0))), ((v 3), .inl (k 0, 60, .inl (fun _ => 0)))] := hD
  refine lv_aload_n hx hb dX6_copyFrom_40 rfl (lv_at hl 0 rfl) ?_
  refine lv_aload_n hx hb dX6_copyFrom_41 rfl (lv_at hl 1 rfl) ?_
  refine va_get (D := D) (ci := 5) (v := .int 4) (C := RX6) (T := TX6) (N := 16) hx hb hts inlX6 hown hK hP 4 rfl rfl 5 (by decide) (hts _ mw_57) (fun _ h9 => h9) rfl dX6_copyFrom_42 ?_
  refine va_put (D := D) (ci := 5) (v := .int 4) (ty := .int) (C := RX6) (T := TX6) (N := 16) hx hb hts inlX6 tyX6 tyX6_ok nmX6 hown hK hP hD hS 0 rfl rfl 5 (by decide) (hts _ mw_57) (fun _ h9 => h9) rfl (by decide +kernel) rfl rfl (Nat.le_of_ble_eq_true rfl) dX6_copyFrom_45 (fun H locs hP hD hS => ?_)
  have hP : va_P D vwCl [((w 0), .inr (5, [.int 0, .int z, .int 3, .int 8, .int 4, .int 4, .int 0, .int 0, .int 0, .int 0, .int 0, .ref (w 1), .ref (w 2), .ref (w 3), .ref (w 4), .ref (w 5)])), ((w 1), .inl (k 0, 10, .inl (fun _ => 0))), ((w 2), .inl (k 0, 10, .inl (fun _ => 0))), ((w 3), .inl (k 0, 60, .inl (fun _ => 0))), ((v 0), .inr (5, [.int 0, .int z, .int 3, .int 8, .int 4, .int 4, .int 0, .int 0, .int 0, .int 0, .int 0, .ref (v 1), .ref (v 2), .ref (v 3), .ref (v 4), .ref (v 5)])), ((v 1), .inl (k 0, 10, .inl (fun _ => 0))), ((v 2), .inl (k 0, 10, .inl (fun _ => 0))), ((v 3), .inl (k 0, 60, .inl (fun _ => 0)))] H := hP
  have hD : va_D A [((w 0), .inr (5, [.int 0, .int z, .int 3, .int 8, .int 4, .int 4, .int 0, .int 0, .int 0, .int 0, .int 0, .ref (w 1), .ref (w 2), .ref (w 3), .ref (w 4), .ref (w 5)])), ((w 1), .inl (k 0, 10, .inl (fun _ => 0))), ((w 2), .inl (k 0, 10, .inl (fun _ => 0))), ((w 3), .inl (k 0, 60, .inl (fun _ => 0))), ((v 0), .inr (5, [.int 0, .int z, .int 3, .int 8, .int 4, .int 4, .int 0, .int 0, .int 0, .int 0, .int 0, .ref (v 1), .ref (v 2), .ref (v 3), .ref (v 4), .ref (v 5)])), ((v 1), .inl (k 0, 10, .inl (fun _ => 0))), ((v 2), .inl (k 0, 10, .inl (fun _ => 0))), ((v 3), .inl (k 0, 60, .inl (fun _ => 0)))] := hD
  refine lv_aload_n hx hb dX6_copyFrom_48 rfl (lv_at hl 0 rfl) ?_
  refine lv_aload_n hx hb dX6_copyFrom_49 rfl (lv_at hl 1 rfl) ?_
  refine va_get (D := D) (ci := 5) (v := .int 0) (C := RX6) (T := TX6) (N := 16) hx hb hts inlX6 hown hK hP 4 rfl rfl 6 (by decide) (hts _ mw_154) (fun _ h9 => h9) rfl dX6_copyFrom_50 ?_
  refine va_put (D := D) (ci := 5) (v := .int 0) (ty := .boolean) (C := RX6) (T := TX6) (N := 16) hx hb hts inlX6 tyX6 tyX6_ok nmX6 hown hK hP hD hS 0 rfl rfl 6 (by decide) (hts _ mw_154) (fun _ h9 => h9) rfl (by decide +kernel) rfl rfl (Nat.le_of_ble_eq_true rfl) dX6_copyFrom_53 (fun H locs hP hD hS => ?_)
  have hP : va_P D vwCl [((w 0), .inr (5, [.int 0, .int z, .int 3, .int 8, .int 4, .int 4, .int 0, .int 0, .int 0, .int 0, .int 0, .ref (w 1), .ref (w 2), .ref (w 3), .ref (w 4), .ref (w 5)])), ((w 1), .inl (k 0, 10, .inl (fun _ => 0))), ((w 2), .inl (k 0, 10, .inl (fun _ => 0))), ((w 3), .inl (k 0, 60, .inl (fun _ => 0))), ((v 0), .inr (5, [.int 0, .int z, .int 3, .int 8, .int 4, .int 4, .int 0, .int 0, .int 0, .int 0, .int 0, .ref (v 1), .ref (v 2), .ref (v 3), .ref (v 4), .ref (v 5)])), ((v 1), .inl (k 0, 10, .inl (fun _ => 0))), ((v 2), .inl (k 0, 10, .inl (fun _ => 0))), ((v 3), .inl (k 0, 60, .inl (fun _ => 0)))] H := hP
  have hD : va_D A [((w 0), .inr (5, [.int 0, .int z, .int 3, .int 8, .int 4, .int 4, .int 0, .int 0, .int 0, .int 0, .int 0, .ref (w 1), .ref (w 2), .ref (w 3), .ref (w 4), .ref (w 5)])), ((w 1), .inl (k 0, 10, .inl (fun _ => 0))), ((w 2), .inl (k 0, 10, .inl (fun _ => 0))), ((w 3), .inl (k 0, 60, .inl (fun _ => 0))), ((v 0), .inr (5, [.int 0, .int z, .int 3, .int 8, .int 4, .int 4, .int 0, .int 0, .int 0, .int 0, .int 0, .ref (v 1), .ref (v 2), .ref (v 3), .ref (v 4), .ref (v 5)])), ((v 1), .inl (k 0, 10, .inl (fun _ => 0))), ((v 2), .inl (k 0, 10, .inl (fun _ => 0))), ((v 3), .inl (k 0, 60, .inl (fun _ => 0)))] := hD
  refine lv_aload_n hx hb dX6_copyFrom_56 rfl (lv_at hl 0 rfl) ?_
  refine lv_aload_n hx hb dX6_copyFrom_57 rfl (lv_at hl 1 rfl) ?_
  refine va_get (D := D) (ci := 5) (v := .int 0) (C := RX6) (T := TX6) (N := 16) hx hb hts inlX6 hown hK hP 4 rfl rfl 7 (by decide) (hts _ mw_155) (fun _ h9 => h9) rfl dX6_copyFrom_58 ?_
  refine va_put (D := D) (ci := 5) (v := .int 0) (ty := .int) (C := RX6) (T := TX6) (N := 16) hx hb hts inlX6 tyX6 tyX6_ok nmX6 hown hK hP hD hS 0 rfl rfl 7 (by decide) (hts _ mw_155) (fun _ h9 => h9) rfl (by decide +kernel) rfl rfl (Nat.le_of_ble_eq_true rfl) dX6_copyFrom_61 (fun H locs hP hD hS => ?_)
  have hP : va_P D vwCl [((w 0), .inr (5, [.int 0, .int z, .int 3, .int 8, .int 4, .int 4, .int 0, .int 0, .int 0, .int 0, .int 0, .ref (w 1), .ref (w 2), .ref (w 3), .ref (w 4), .ref (w 5)])), ((w 1), .inl (k 0, 10, .inl (fun _ => 0))), ((w 2), .inl (k 0, 10, .inl (fun _ => 0))), ((w 3), .inl (k 0, 60, .inl (fun _ => 0))), ((v 0), .inr (5, [.int 0, .int z, .int 3, .int 8, .int 4, .int 4, .int 0, .int 0, .int 0, .int 0, .int 0, .ref (v 1), .ref (v 2), .ref (v 3), .ref (v 4), .ref (v 5)])), ((v 1), .inl (k 0, 10, .inl (fun _ => 0))), ((v 2), .inl (k 0, 10, .inl (fun _ => 0))), ((v 3), .inl (k 0, 60, .inl (fun _ => 0)))] H := hP
  have hD : va_D A [((w 0), .inr (5, [.int 0, .int z, .int 3, .int 8, .int 4, .int 4, .int 0, .int 0, .int 0, .int 0, .int 0, .ref (w 1), .ref (w 2), .ref (w 3), .ref (w 4), .ref (w 5)])), ((w 1), .inl (k 0, 10, .inl (fun _ => 0))), ((w 2), .inl (k 0, 10, .inl (fun _ => 0))), ((w 3), .inl (k 0, 60, .inl (fun _ => 0))), ((v 0), .inr (5, [.int 0, .int z, .int 3, .int 8, .int 4, .int 4, .int 0, .int 0, .int 0, .int 0, .int 0, .ref (v 1), .ref (v 2), .ref (v 3), .ref (v 4), .ref (v 5)])), ((v 1), .inl (k 0, 10, .inl (fun _ => 0))), ((v 2), .inl (k 0, 10, .inl (fun _ => 0))), ((v 3), .inl (k 0, 60, .inl (fun _ => 0)))] := hD
  refine lv_aload_n hx hb dX6_copyFrom_64 rfl (lv_at hl 0 rfl) ?_
  refine lv_aload_n hx hb dX6_copyFrom_65 rfl (lv_at hl 1 rfl) ?_
  refine va_get (D := D) (ci := 5) (v := .int 0) (C := RX6) (T := TX6) (N := 16) hx hb hts inlX6 hown hK hP 4 rfl rfl 8 (by decide) (hts _ mw_156) (fun _ h9 => h9) rfl dX6_copyFrom_66 ?_
  refine va_put (D := D) (ci := 5) (v := .int 0) (ty := .int) (C := RX6) (T := TX6) (N := 16) hx hb hts inlX6 tyX6 tyX6_ok nmX6 hown hK hP hD hS 0 rfl rfl 8 (by decide) (hts _ mw_156) (fun _ h9 => h9) rfl (by decide +kernel) rfl rfl (Nat.le_of_ble_eq_true rfl) dX6_copyFrom_69 (fun H locs hP hD hS => ?_)
  have hP : va_P D vwCl [((w 0), .inr (5, [.int 0, .int z, .int 3, .int 8, .int 4, .int 4, .int 0, .int 0, .int 0, .int 0, .int 0, .ref (w 1), .ref (w 2), .ref (w 3), .ref (w 4), .ref (w 5)])), ((w 1), .inl (k 0, 10, .inl (fun _ => 0))), ((w 2), .inl (k 0, 10, .inl (fun _ => 0))), ((w 3), .inl (k 0, 60, .inl (fun _ => 0))), ((v 0), .inr (5, [.int 0, .int z, .int 3, .int 8, .int 4, .int 4, .int 0, .int 0, .int 0, .int 0, .int 0, .ref (v 1), .ref (v 2), .ref (v 3), .ref (v 4), .ref (v 5)])), ((v 1), .inl (k 0, 10, .inl (fun _ => 0))), ((v 2), .inl (k 0, 10, .inl (fun _ => 0))), ((v 3), .inl (k 0, 60, .inl (fun _ => 0)))] H := hP
  have hD : va_D A [((w 0), .inr (5, [.int 0, .int z, .int 3, .int 8, .int 4, .int 4, .int 0, .int 0, .int 0, .int 0, .int 0, .ref (w 1), .ref (w 2), .ref (w 3), .ref (w 4), .ref (w 5)])), ((w 1), .inl (k 0, 10, .inl (fun _ => 0))), ((w 2), .inl (k 0, 10, .inl (fun _ => 0))), ((w 3), .inl (k 0, 60, .inl (fun _ => 0))), ((v 0), .inr (5, [.int 0, .int z, .int 3, .int 8, .int 4, .int 4, .int 0, .int 0, .int 0, .int 0, .int 0, .ref (v 1), .ref (v 2), .ref (v 3), .ref (v 4), .ref (v 5)])), ((v 1), .inl (k 0, 10, .inl (fun _ => 0))), ((v 2), .inl (k 0, 10, .inl (fun _ => 0))), ((v 3), .inl (k 0, 60, .inl (fun _ => 0)))] := hD
  refine lv_aload_n hx hb dX6_copyFrom_72 rfl (lv_at hl 0 rfl) ?_
  refine lv_aload_n hx hb dX6_copyFrom_73 rfl (lv_at hl 1 rfl) ?_
  refine va_get (D := D) (ci := 5) (v := .int 0) (C := RX6) (T := TX6) (N := 16) hx hb hts inlX6 hown hK hP 4 rfl rfl 9 (by decide) (hts _ mw_157) (fun _ h9 => h9) rfl dX6_copyFrom_74 ?_
  refine va_put (D := D) (ci := 5) (v := .int 0) (ty := .int) (C := RX6) (T := TX6) (N := 16) hx hb hts inlX6 tyX6 tyX6_ok nmX6 hown hK hP hD hS 0 rfl rfl 9 (by decide) (hts _ mw_157) (fun _ h9 => h9) rfl (by decide +kernel) rfl rfl (Nat.le_of_ble_eq_true rfl) dX6_copyFrom_77 (fun H locs hP hD hS => ?_)
  have hP : va_P D vwCl [((w 0), .inr (5, [.int 0, .int z, .int 3, .int 8, .int 4, .int 4, .int 0, .int 0, .int 0, .int 0, .int 0, .ref (w 1), .ref (w 2), .ref (w 3), .ref (w 4), .ref (w 5)])), ((w 1), .inl (k 0, 10, .inl (fun _ => 0))), ((w 2), .inl (k 0, 10, .inl (fun _ => 0))), ((w 3), .inl (k 0, 60, .inl (fun _ => 0))), ((v 0), .inr (5, [.int 0, .int z, .int 3, .int 8, .int 4, .int 4, .int 0, .int 0, .int 0, .int 0, .int 0, .ref (v 1), .ref (v 2), .ref (v 3), .ref (v 4), .ref (v 5)])), ((v 1), .inl (k 0, 10, .inl (fun _ => 0))), ((v 2), .inl (k 0, 10, .inl (fun _ => 0))), ((v 3), .inl (k 0, 60, .inl (fun _ => 0)))] H := hP
  have hD : va_D A [((w 0), .inr (5, [.int 0, .int z, .int 3, .int 8, .int 4, .int 4, .int 0, .int 0, .int 0, .int 0, .int 0, .ref (w 1), .ref (w 2), .ref (w 3), .ref (w 4), .ref (w 5)])), ((w 1), .inl (k 0, 10, .inl (fun _ => 0))), ((w 2), .inl (k 0, 10, .inl (fun _ => 0))), ((w 3), .inl (k 0, 60, .inl (fun _ => 0))), ((v 0), .inr (5, [.int 0, .int z, .int 3, .int 8, .int 4, .int 4, .int 0, .int 0, .int 0, .int 0, .int 0, .ref (v 1), .ref (v 2), .ref (v 3), .ref (v 4), .ref (v 5)])), ((v 1), .inl (k 0, 10, .inl (fun _ => 0))), ((v 2), .inl (k 0, 10, .inl (fun _ => 0))), ((v 3), .inl (k 0, 60, .inl (fun _ => 0)))] := hD
  refine lv_aload_n hx hb dX6_copyFrom_80 rfl (lv_at hl 0 rfl) ?_
  refine lv_aload_n hx hb dX6_copyFrom_81 rfl (lv_at hl 1 rfl) ?_
  refine va_get (D := D) (ci := 5) (v := .int 0) (C := RX6) (T := TX6) (N := 16) hx hb hts inlX6 hown hK hP 4 rfl rfl 10 (by decide) (hts _ mw_158) (fun _ h9 => h9) rfl dX6_copyFrom_82 ?_
  refine va_put (D := D) (ci := 5) (v := .int 0) (ty := .int) (C := RX6) (T := TX6) (N := 16) hx hb hts inlX6 tyX6 tyX6_ok nmX6 hown hK hP hD hS 0 rfl rfl 10 (by decide) (hts _ mw_158) (fun _ h9 => h9) rfl (by decide +kernel) rfl rfl (Nat.le_of_ble_eq_true rfl) dX6_copyFrom_85 (fun H locs hP hD hS => ?_)
  have hP : va_P D vwCl [((w 0), .inr (5, [.int 0, .int z, .int 3, .int 8, .int 4, .int 4, .int 0, .int 0, .int 0, .int 0, .int 0, .ref (w 1), .ref (w 2), .ref (w 3), .ref (w 4), .ref (w 5)])), ((w 1), .inl (k 0, 10, .inl (fun _ => 0))), ((w 2), .inl (k 0, 10, .inl (fun _ => 0))), ((w 3), .inl (k 0, 60, .inl (fun _ => 0))), ((v 0), .inr (5, [.int 0, .int z, .int 3, .int 8, .int 4, .int 4, .int 0, .int 0, .int 0, .int 0, .int 0, .ref (v 1), .ref (v 2), .ref (v 3), .ref (v 4), .ref (v 5)])), ((v 1), .inl (k 0, 10, .inl (fun _ => 0))), ((v 2), .inl (k 0, 10, .inl (fun _ => 0))), ((v 3), .inl (k 0, 60, .inl (fun _ => 0)))] H := hP
  have hD : va_D A [((w 0), .inr (5, [.int 0, .int z, .int 3, .int 8, .int 4, .int 4, .int 0, .int 0, .int 0, .int 0, .int 0, .ref (w 1), .ref (w 2), .ref (w 3), .ref (w 4), .ref (w 5)])), ((w 1), .inl (k 0, 10, .inl (fun _ => 0))), ((w 2), .inl (k 0, 10, .inl (fun _ => 0))), ((w 3), .inl (k 0, 60, .inl (fun _ => 0))), ((v 0), .inr (5, [.int 0, .int z, .int 3, .int 8, .int 4, .int 4, .int 0, .int 0, .int 0, .int 0, .int 0, .ref (v 1), .ref (v 2), .ref (v 3), .ref (v 4), .ref (v 5)])), ((v 1), .inl (k 0, 10, .inl (fun _ => 0))), ((v 2), .inl (k 0, 10, .inl (fun _ => 0))), ((v 3), .inl (k 0, 60, .inl (fun _ => 0)))] := hD
  refine lv_aload_n hx hb dX6_copyFrom_88 rfl (lv_at hl 1 rfl) ?_
  refine va_get (D := D) (ci := 5) (v := .ref (v 1)) (C := RX6) (T := TX6) (N := 16) hx hb hts inlX6 hown hK hP 4 rfl rfl 11 (by decide) (hts _ mw_58) (fun _ h9 => h9) rfl dX6_copyFrom_89 ?_
  refine lv_iconst (v := 0) hx hb dX6_copyFrom_92 (by decide) ?_
  refine lv_aload_n hx hb dX6_copyFrom_93 rfl (lv_at hl 0 rfl) ?_
  refine va_get (D := D) (ci := 5) (v := .ref (w 1)) (C := RX6) (T := TX6) (N := 16) hx hb hts inlX6 hown hK hP 0 rfl rfl 11 (by decide) (hts _ mw_58) (fun _ h9 => h9) rfl dX6_copyFrom_94 ?_
  refine lv_iconst (v := 0) hx hb dX6_copyFrom_97 (by decide) ?_
  refine lv_aload_n hx hb dX6_copyFrom_98 rfl (lv_at hl 0 rfl) ?_
  refine va_get (D := D) (ci := 5) (v := .int 0) (C := RX6) (T := TX6) (N := 16) hx hb hts inlX6 hown hK hP 0 rfl rfl 0 (by decide) (hts _ mw_152) (fun _ h9 => h9) rfl dX6_copyFrom_99 ?_
  refine va_copyi hx hb (by rw [hml, hl.1]) hown (hts _ mw_279) (hts _ mw_280) (hts _ mw_281) (hts _ mw_282) hK hP hD hS 5 1 0 0 rfl rfl rfl rfl rfl (by decide) (by decide) (by decide) (by decide) (by decide) (fun i h => by first | rfl | exact absurd h (by decide)) (Nat.le_of_ble_eq_true rfl) (Nat.le_of_ble_eq_true rfl) dX6_copyFrom_102 (fun H locs hP hD hS => ?_)
  rw [cpy0] at hP hD
  have hP : va_P D vwCl [((w 0), .inr (5, [.int 0, .int z, .int 3, .int 8, .int 4, .int 4, .int 0, .int 0, .int 0, .int 0, .int 0, .ref (w 1), .ref (w 2), .ref (w 3), .ref (w 4), .ref (w 5)])), ((w 1), .inl (k 0, 10, .inl (fun _ => 0))), ((w 2), .inl (k 0, 10, .inl (fun _ => 0))), ((w 3), .inl (k 0, 60, .inl (fun _ => 0))), ((v 0), .inr (5, [.int 0, .int z, .int 3, .int 8, .int 4, .int 4, .int 0, .int 0, .int 0, .int 0, .int 0, .ref (v 1), .ref (v 2), .ref (v 3), .ref (v 4), .ref (v 5)])), ((v 1), .inl (k 0, 10, .inl (fun _ => 0))), ((v 2), .inl (k 0, 10, .inl (fun _ => 0))), ((v 3), .inl (k 0, 60, .inl (fun _ => 0)))] H := hP
  have hD : va_D A [((w 0), .inr (5, [.int 0, .int z, .int 3, .int 8, .int 4, .int 4, .int 0, .int 0, .int 0, .int 0, .int 0, .ref (w 1), .ref (w 2), .ref (w 3), .ref (w 4), .ref (w 5)])), ((w 1), .inl (k 0, 10, .inl (fun _ => 0))), ((w 2), .inl (k 0, 10, .inl (fun _ => 0))), ((w 3), .inl (k 0, 60, .inl (fun _ => 0))), ((v 0), .inr (5, [.int 0, .int z, .int 3, .int 8, .int 4, .int 4, .int 0, .int 0, .int 0, .int 0, .int 0, .ref (v 1), .ref (v 2), .ref (v 3), .ref (v 4), .ref (v 5)])), ((v 1), .inl (k 0, 10, .inl (fun _ => 0))), ((v 2), .inl (k 0, 10, .inl (fun _ => 0))), ((v 3), .inl (k 0, 60, .inl (fun _ => 0)))] := hD
  refine lv_aload_n hx hb dX6_copyFrom_105 rfl (lv_at hl 1 rfl) ?_
  refine va_get (D := D) (ci := 5) (v := .ref (v 2)) (C := RX6) (T := TX6) (N := 16) hx hb hts inlX6 hown hK hP 4 rfl rfl 12 (by decide) (hts _ mw_59) (fun _ h9 => h9) rfl dX6_copyFrom_106 ?_
  refine lv_iconst (v := 0) hx hb dX6_copyFrom_109 (by decide) ?_
  refine lv_aload_n hx hb dX6_copyFrom_110 rfl (lv_at hl 0 rfl) ?_
  refine va_get (D := D) (ci := 5) (v := .ref (w 2)) (C := RX6) (T := TX6) (N := 16) hx hb hts inlX6 hown hK hP 0 rfl rfl 12 (by decide) (hts _ mw_59) (fun _ h9 => h9) rfl dX6_copyFrom_111 ?_
  refine lv_iconst (v := 0) hx hb dX6_copyFrom_114 (by decide) ?_
  refine lv_aload_n hx hb dX6_copyFrom_115 rfl (lv_at hl 0 rfl) ?_
  refine va_get (D := D) (ci := 5) (v := .int 0) (C := RX6) (T := TX6) (N := 16) hx hb hts inlX6 hown hK hP 0 rfl rfl 0 (by decide) (hts _ mw_152) (fun _ h9 => h9) rfl dX6_copyFrom_116 ?_
  refine va_copyi hx hb (by rw [hml, hl.1]) hown (hts _ mw_279) (hts _ mw_280) (hts _ mw_281) (hts _ mw_282) hK hP hD hS 6 2 0 0 rfl rfl rfl rfl rfl (by decide) (by decide) (by decide) (by decide) (by decide) (fun i h => by first | rfl | exact absurd h (by decide)) (Nat.le_of_ble_eq_true rfl) (Nat.le_of_ble_eq_true rfl) dX6_copyFrom_119 (fun H locs hP hD hS => ?_)
  rw [cpy0] at hP hD
  have hP : va_P D vwCl [((w 0), .inr (5, [.int 0, .int z, .int 3, .int 8, .int 4, .int 4, .int 0, .int 0, .int 0, .int 0, .int 0, .ref (w 1), .ref (w 2), .ref (w 3), .ref (w 4), .ref (w 5)])), ((w 1), .inl (k 0, 10, .inl (fun _ => 0))), ((w 2), .inl (k 0, 10, .inl (fun _ => 0))), ((w 3), .inl (k 0, 60, .inl (fun _ => 0))), ((v 0), .inr (5, [.int 0, .int z, .int 3, .int 8, .int 4, .int 4, .int 0, .int 0, .int 0, .int 0, .int 0, .ref (v 1), .ref (v 2), .ref (v 3), .ref (v 4), .ref (v 5)])), ((v 1), .inl (k 0, 10, .inl (fun _ => 0))), ((v 2), .inl (k 0, 10, .inl (fun _ => 0))), ((v 3), .inl (k 0, 60, .inl (fun _ => 0)))] H := hP
  have hD : va_D A [((w 0), .inr (5, [.int 0, .int z, .int 3, .int 8, .int 4, .int 4, .int 0, .int 0, .int 0, .int 0, .int 0, .ref (w 1), .ref (w 2), .ref (w 3), .ref (w 4), .ref (w 5)])), ((w 1), .inl (k 0, 10, .inl (fun _ => 0))), ((w 2), .inl (k 0, 10, .inl (fun _ => 0))), ((w 3), .inl (k 0, 60, .inl (fun _ => 0))), ((v 0), .inr (5, [.int 0, .int z, .int 3, .int 8, .int 4, .int 4, .int 0, .int 0, .int 0, .int 0, .int 0, .ref (v 1), .ref (v 2), .ref (v 3), .ref (v 4), .ref (v 5)])), ((v 1), .inl (k 0, 10, .inl (fun _ => 0))), ((v 2), .inl (k 0, 10, .inl (fun _ => 0))), ((v 3), .inl (k 0, 60, .inl (fun _ => 0)))] := hD
  refine lv_aload_n hx hb dX6_copyFrom_122 rfl (lv_at hl 1 rfl) ?_
  refine va_get (D := D) (ci := 5) (v := .ref (v 3)) (C := RX6) (T := TX6) (N := 16) hx hb hts inlX6 hown hK hP 4 rfl rfl 13 (by decide) (hts _ mw_60) (fun _ h9 => h9) rfl dX6_copyFrom_123 ?_
  refine lv_iconst (v := 0) hx hb dX6_copyFrom_126 (by decide) ?_
  refine lv_aload_n hx hb dX6_copyFrom_127 rfl (lv_at hl 0 rfl) ?_
  refine va_get (D := D) (ci := 5) (v := .ref (w 3)) (C := RX6) (T := TX6) (N := 16) hx hb hts inlX6 hown hK hP 0 rfl rfl 13 (by decide) (hts _ mw_60) (fun _ h9 => h9) rfl dX6_copyFrom_128 ?_
  refine lv_iconst (v := 0) hx hb dX6_copyFrom_131 (by decide) ?_
  refine lv_aload_n hx hb dX6_copyFrom_132 rfl (lv_at hl 0 rfl) ?_
  refine va_get (D := D) (ci := 5) (v := .int 0) (C := RX6) (T := TX6) (N := 16) hx hb hts inlX6 hown hK hP 0 rfl rfl 0 (by decide) (hts _ mw_152) (fun _ h9 => h9) rfl dX6_copyFrom_133 ?_
  refine lv_bipush (v := 6) hx hb dX6_copyFrom_136 (by decide) ?_
  refine lv_imul hx hb dX6_copyFrom_138 ?_
  refine lv_ni (v := 0) (by decide) ?_
  refine va_copyi hx hb (by rw [hml, hl.1]) hown (hts _ mw_279) (hts _ mw_280) (hts _ mw_281) (hts _ mw_282) hK hP hD hS 7 3 0 0 rfl rfl rfl rfl rfl (by decide) (by decide) (by decide) (by decide) (by decide) (fun i h => by first | rfl | exact absurd h (by decide)) (Nat.le_of_ble_eq_true rfl) (Nat.le_of_ble_eq_true rfl) dX6_copyFrom_139 (fun H locs hP hD hS => ?_)
  rw [cpy0] at hP hD
  have hP : va_P D vwCl [((w 0), .inr (5, [.int 0, .int z, .int 3, .int 8, .int 4, .int 4, .int 0, .int 0, .int 0, .int 0, .int 0, .ref (w 1), .ref (w 2), .ref (w 3), .ref (w 4), .ref (w 5)])), ((w 1), .inl (k 0, 10, .inl (fun _ => 0))), ((w 2), .inl (k 0, 10, .inl (fun _ => 0))), ((w 3), .inl (k 0, 60, .inl (fun _ => 0))), ((v 0), .inr (5, [.int 0, .int z, .int 3, .int 8, .int 4, .int 4, .int 0, .int 0, .int 0, .int 0, .int 0, .ref (v 1), .ref (v 2), .ref (v 3), .ref (v 4), .ref (v 5)])), ((v 1), .inl (k 0, 10, .inl (fun _ => 0))), ((v 2), .inl (k 0, 10, .inl (fun _ => 0))), ((v 3), .inl (k 0, 60, .inl (fun _ => 0)))] H := hP
  have hD : va_D A [((w 0), .inr (5, [.int 0, .int z, .int 3, .int 8, .int 4, .int 4, .int 0, .int 0, .int 0, .int 0, .int 0, .ref (w 1), .ref (w 2), .ref (w 3), .ref (w 4), .ref (w 5)])), ((w 1), .inl (k 0, 10, .inl (fun _ => 0))), ((w 2), .inl (k 0, 10, .inl (fun _ => 0))), ((w 3), .inl (k 0, 60, .inl (fun _ => 0))), ((v 0), .inr (5, [.int 0, .int z, .int 3, .int 8, .int 4, .int 4, .int 0, .int 0, .int 0, .int 0, .int 0, .ref (v 1), .ref (v 2), .ref (v 3), .ref (v 4), .ref (v 5)])), ((v 1), .inl (k 0, 10, .inl (fun _ => 0))), ((v 2), .inl (k 0, 10, .inl (fun _ => 0))), ((v 3), .inl (k 0, 60, .inl (fun _ => 0)))] := hD
  have hP9 := hP.sub (ws' := [((w 0), .inr (5, [.int 0, .int z, .int 3, .int 8, .int 4, .int 4, .int 0, .int 0, .int 0, .int 0, .int 0, .ref (w 1), .ref (w 2), .ref (w 3), .ref (w 4), .ref (w 5)])), ((w 1), .inl (k 0, 10, .inl (fun _ => 0))), ((w 2), .inl (k 0, 10, .inl (fun _ => 0))), ((w 3), .inl (k 0, 60, .inl (fun _ => 0))), ((v 0), .inr (5, [.int 0, .int z, .int 3, .int 8, .int 4, .int 4, .int 0, .int 0, .int 0, .int 0, .int 0, .ref (v 1), .ref (v 2), .ref (v 3), .ref (v 4), .ref (v 5)])), ((v 1), .inl (k 0, 10, .inl (fun _ => 0))), ((v 2), .inl (k 0, 10, .inl (fun _ => 0))), ((v 3), .inl (k 0, 60, .inl (fun _ => 0)))]) [0, 1, 2, 3, 4, 5, 6, 7] rfl
  have hD9 := hD.sub (ws' := [((w 0), .inr (5, [.int 0, .int z, .int 3, .int 8, .int 4, .int 4, .int 0, .int 0, .int 0, .int 0, .int 0, .ref (w 1), .ref (w 2), .ref (w 3), .ref (w 4), .ref (w 5)])), ((w 1), .inl (k 0, 10, .inl (fun _ => 0))), ((w 2), .inl (k 0, 10, .inl (fun _ => 0))), ((w 3), .inl (k 0, 60, .inl (fun _ => 0))), ((v 0), .inr (5, [.int 0, .int z, .int 3, .int 8, .int 4, .int 4, .int 0, .int 0, .int 0, .int 0, .int 0, .ref (v 1), .ref (v 2), .ref (v 3), .ref (v 4), .ref (v 5)])), ((v 1), .inl (k 0, 10, .inl (fun _ => 0))), ((v 2), .inl (k 0, 10, .inl (fun _ => 0))), ((v 3), .inl (k 0, 60, .inl (fun _ => 0)))]) [0, 1, 2, 3, 4, 5, 6, 7] (by decide) rfl
  exact W.vret hx hb hr (fun t ht hW => ⟨⟨(), rfl, trivial, by rw [ht]; exact hP9, hD9⟩, hS.F ht⟩) hS.2.2 dX6_copyFrom_142
set_option maxHeartbeats 4000000 in
set_option maxRecDepth 100000 in
theorem c_W_passYear (l : Launch) (D : va_G) (k : Nat → ClassId) (w : Nat → Nat) (y : Int32) (x : Int32) (sz : Nat) : Met l yX6_passYear (Cond.code yX6_passYear cX6_passYear 3 none :: wsL_law) ({ frames := 1, cells := 0, slots := 0, locals := 60 } : Room) (va_Pc [.ref (w 0), .int x] (pu D k sz [((w 0), .inr (5, [.int 0, .int y, .int 3, .int 8, .int 4, .int 4, .int 0, .int 0, .int 0, .int 0, .int 0, .ref (w 1), .ref (w 2), .ref (w 3), .ref (w 4), .ref (w 5)])), ((w 1), .inl (k 0, 10, .inl (fun _ => 0))), ((w 2), .inl (k 0, 10, .inl (fun _ => 0))), ((w 3), .inl (k 0, 60, .inl (fun _ => 0))), ((w 4), .inl (k 0, 10, .inl (fun _ => 0))), ((w 5), .inl (k 0, 60, .inl (fun _ => 0)))])) (va_Qv (fun uu : Int32 => True) (qu D (va_A [((w 0), .inr (5, [.int 0, .int y, .int 3, .int 8, .int 4, .int 4, .int 0, .int 0, .int 0, .int 0, .int 0, .ref (w 1), .ref (w 2), .ref (w 3), .ref (w 4), .ref (w 5)])), ((w 1), .inl (k 0, 10, .inl (fun _ => 0))), ((w 2), .inl (k 0, 10, .inl (fun _ => 0))), ((w 3), .inl (k 0, 60, .inl (fun _ => 0))), ((w 4), .inl (k 0, 10, .inl (fun _ => 0))), ((w 5), .inl (k 0, 60, .inl (fun _ => 0)))] sz) (fun uu : Int32 => [((w 0), .inr (5, [.int 0, .int uu, .int 3, .int 8, .int 4, .int 4, .int 0, .int 0, .int 0, .int 0, .int 0, .ref (w 1), .ref (w 2), .ref (w 3), .ref (w 4), .ref (w 5)])), ((w 1), .inl (k 0, 10, .inl (fun _ => 0))), ((w 2), .inl (k 0, 10, .inl (fun _ => 0))), ((w 3), .inl (k 0, 60, .inl (fun _ => 0))), ((w 4), .inl (k 0, 10, .inl (fun _ => 0))), ((w 5), .inl (k 0, 60, .inl (fun _ => 0)))])) (va_A [((w 0), .inr (5, [.int 0, .int y, .int 3, .int 8, .int 4, .int 4, .int 0, .int 0, .int 0, .int 0, .int 0, .ref (w 1), .ref (w 2), .ref (w 3), .ref (w 4), .ref (w 5)])), ((w 1), .inl (k 0, 10, .inl (fun _ => 0))), ((w 2), .inl (k 0, 10, .inl (fun _ => 0))), ((w 3), .inl (k 0, 60, .inl (fun _ => 0))), ((w 4), .inl (k 0, 10, .inl (fun _ => 0))), ((w 5), .inl (k 0, 60, .inl (fun _ => 0)))] sz)) 0 0 (va_A [((w 0), .inr (5, [.int 0, .int y, .int 3, .int 8, .int 4, .int 4, .int 0, .int 0, .int 0, .int 0, .int 0, .ref (w 1), .ref (w 2), .ref (w 3), .ref (w 4), .ref (w 5)])), ((w 1), .inl (k 0, 10, .inl (fun _ => 0))), ((w 2), .inl (k 0, 10, .inl (fun _ => 0))), ((w 3), .inl (k 0, 60, .inl (fun _ => 0))), ((w 4), .inl (k 0, 10, .inl (fun _ => 0))), ((w 5), .inl (k 0, 60, .inl (fun _ => 0)))] sz) := by
  refine Met.ofW (cc := cX6_passYear) (maxL := 3) (ret := none) (by decide) rfl ?_
  intro p e s m args below meth c s₁ B hml hv
  obtain ⟨rfl, hsz, hP, hK, hD0⟩ := hv
  have hx := B.exec
  have hb := B.bytes
  have hr := B.returns
  have hts : ∀ w ∈ wsL_law, w.before _ s = true := fun w h => atoms_spec (ws := Cond.code yX6_passYear cX6_passYear 3 none :: wsL_law) B.pre w (List.mem_cons_of_mem _ h)
  have hown : s.vm.findClass RX6 = some m.cls := findClass_of_methodNamed B.named
  have hlocks := B.notSynchronized
  subst hsz
  have hD := hD0.self (sz := s.heap.size)
  generalize hAe : va_A [((w 0), .inr (5, [.int 0, .int y, .int 3, .int 8, .int 4, .int 4, .int 0, .int 0, .int 0, .int 0, .int 0, .ref (w 1), .ref (w 2), .ref (w 3), .ref (w 4), .ref (w 5)])), ((w 1), .inl (k 0, 10, .inl (fun _ => 0))), ((w 2), .inl (k 0, 10, .inl (fun _ => 0))), ((w 3), .inl (k 0, 60, .inl (fun _ => 0))), ((w 4), .inl (k 0, 10, .inl (fun _ => 0))), ((w 5), .inl (k 0, 60, .inl (fun _ => 0)))] s.heap.size = A at hD ⊢
  have hA : ∀ q : Nat, s.heap.size ≤ q → A q := fun q h => by rw [← hAe]; exact Or.inr h
  have hS : va_S A s.heap s.heap [] := va_S.rf
  have hP : va_P D vwCl [((w 0), .inr (5, [.int 0, .int y, .int 3, .int 8, .int 4, .int 4, .int 0, .int 0, .int 0, .int 0, .int 0, .ref (w 1), .ref (w 2), .ref (w 3), .ref (w 4), .ref (w 5)])), ((w 1), .inl (k 0, 10, .inl (fun _ => 0))), ((w 2), .inl (k 0, 10, .inl (fun _ => 0))), ((w 3), .inl (k 0, 60, .inl (fun _ => 0))), ((w 4), .inl (k 0, 10, .inl (fun _ => 0))), ((w 5), .inl (k 0, 60, .inl (fun _ => 0)))] s.heap := hP
  have hl := lv_entry ([.ref (w 0), .int x]) (n := 3) (Nat.le_of_ble_eq_true rfl)
  rw [lg_entry_eq]
  generalize (lg_sl ([.ref (w 0), .int x]) ++ List.replicate (3 - (lg_sl ([.ref (w 0), .int x])).length) Slot.unset).toArray = ls at hl ⊢
  have hl : lv_has ls 3 [(0, .ref (w 0)), (1, .int x)] := hl
  refine lv_aload_n hx hb dX6_passYear_0 rfl (lv_at hl 0 rfl) ?_
  refine va_get (D := D) (ci := 5) (v := .ref (w 3)) (C := RX6) (T := TX6) (N := 16) hx hb hts inlX6 hown hK hP 0 rfl rfl 13 (by decide) (hts _ mw_60) (fun _ h9 => h9) rfl dX6_passYear_1 ?_
  refine lv_iconst (v := 0) hx hb dX6_passYear_4 (by decide) ?_
  refine lv_aload_n hx hb dX6_passYear_5 rfl (lv_at hl 0 rfl) ?_
  refine va_get (D := D) (ci := 5) (v := .ref (w 5)) (C := RX6) (T := TX6) (N := 16) hx hb hts inlX6 hown hK hP 0 rfl rfl 15 (by decide) (hts _ mw_62) (fun _ h9 => h9) rfl dX6_passYear_6 ?_
  refine lv_iconst (v := 0) hx hb dX6_passYear_9 (by decide) ?_
  refine lv_aload_n hx hb dX6_passYear_10 rfl (lv_at hl 0 rfl) ?_
  refine va_get (D := D) (ci := 5) (v := .int 0) (C := RX6) (T := TX6) (N := 16) hx hb hts inlX6 hown hK hP 0 rfl rfl 0 (by decide) (hts _ mw_152) (fun _ h9 => h9) rfl dX6_passYear_11 ?_
  refine lv_bipush (v := 6) hx hb dX6_passYear_14 (by decide) ?_
  refine lv_imul hx hb dX6_passYear_16 ?_
  refine lv_ni (v := 0) (by decide) ?_
  refine va_copyi hx hb (by rw [hml, hl.1]) hown (hts _ mw_279) (hts _ mw_280) (hts _ mw_281) (hts _ mw_282) hK hP hD hS 3 5 0 0 rfl rfl rfl rfl rfl (by decide) (by decide) (by decide) (by decide) (by decide) (fun i h => by first | rfl | exact absurd h (by decide)) (Nat.le_of_ble_eq_true rfl) (Nat.le_of_ble_eq_true rfl) dX6_passYear_17 (fun H locs hP hD hS => ?_)
  rw [cpy0] at hP hD
  have hP : va_P D vwCl [((w 0), .inr (5, [.int 0, .int y, .int 3, .int 8, .int 4, .int 4, .int 0, .int 0, .int 0, .int 0, .int 0, .ref (w 1), .ref (w 2), .ref (w 3), .ref (w 4), .ref (w 5)])), ((w 1), .inl (k 0, 10, .inl (fun _ => 0))), ((w 2), .inl (k 0, 10, .inl (fun _ => 0))), ((w 3), .inl (k 0, 60, .inl (fun _ => 0))), ((w 4), .inl (k 0, 10, .inl (fun _ => 0))), ((w 5), .inl (k 0, 60, .inl (fun _ => 0)))] H := hP
  have hD : va_D A [((w 0), .inr (5, [.int 0, .int y, .int 3, .int 8, .int 4, .int 4, .int 0, .int 0, .int 0, .int 0, .int 0, .ref (w 1), .ref (w 2), .ref (w 3), .ref (w 4), .ref (w 5)])), ((w 1), .inl (k 0, 10, .inl (fun _ => 0))), ((w 2), .inl (k 0, 10, .inl (fun _ => 0))), ((w 3), .inl (k 0, 60, .inl (fun _ => 0))), ((w 4), .inl (k 0, 10, .inl (fun _ => 0))), ((w 5), .inl (k 0, 60, .inl (fun _ => 0)))] := hD
  refine lv_aload_n hx hb dX6_passYear_20 rfl (lv_at hl 0 rfl) ?_
  refine va_get (D := D) (ci := 5) (v := .ref (w 1)) (C := RX6) (T := TX6) (N := 16) hx hb hts inlX6 hown hK hP 0 rfl rfl 11 (by decide) (hts _ mw_58) (fun _ h9 => h9) rfl dX6_passYear_21 ?_
  refine lv_iconst (v := 0) hx hb dX6_passYear_24 (by decide) ?_
  refine lv_aload_n hx hb dX6_passYear_25 rfl (lv_at hl 0 rfl) ?_
  refine va_get (D := D) (ci := 5) (v := .ref (w 4)) (C := RX6) (T := TX6) (N := 16) hx hb hts inlX6 hown hK hP 0 rfl rfl 14 (by decide) (hts _ mw_61) (fun _ h9 => h9) rfl dX6_passYear_26 ?_
  refine lv_iconst (v := 0) hx hb dX6_passYear_29 (by decide) ?_
  refine lv_aload_n hx hb dX6_passYear_30 rfl (lv_at hl 0 rfl) ?_
  refine va_get (D := D) (ci := 5) (v := .int 0) (C := RX6) (T := TX6) (N := 16) hx hb hts inlX6 hown hK hP 0 rfl rfl 0 (by decide) (hts _ mw_152) (fun _ h9 => h9) rfl dX6_passYear_31 ?_
  refine va_copyi hx hb (by rw [hml, hl.1]) hown (hts _ mw_279) (hts _ mw_280) (hts _ mw_281) (hts _ mw_282) hK hP hD hS 1 4 0 0 rfl rfl rfl rfl rfl (by decide) (by decide) (by decide) (by decide) (by decide) (fun i h => by first | rfl | exact absurd h (by decide)) (Nat.le_of_ble_eq_true rfl) (Nat.le_of_ble_eq_true rfl) dX6_passYear_34 (fun H locs hP hD hS => ?_)
  rw [cpy0] at hP hD
  have hP : va_P D vwCl [((w 0), .inr (5, [.int 0, .int y, .int 3, .int 8, .int 4, .int 4, .int 0, .int 0, .int 0, .int 0, .int 0, .ref (w 1), .ref (w 2), .ref (w 3), .ref (w 4), .ref (w 5)])), ((w 1), .inl (k 0, 10, .inl (fun _ => 0))), ((w 2), .inl (k 0, 10, .inl (fun _ => 0))), ((w 3), .inl (k 0, 60, .inl (fun _ => 0))), ((w 4), .inl (k 0, 10, .inl (fun _ => 0))), ((w 5), .inl (k 0, 60, .inl (fun _ => 0)))] H := hP
  have hD : va_D A [((w 0), .inr (5, [.int 0, .int y, .int 3, .int 8, .int 4, .int 4, .int 0, .int 0, .int 0, .int 0, .int 0, .ref (w 1), .ref (w 2), .ref (w 3), .ref (w 4), .ref (w 5)])), ((w 1), .inl (k 0, 10, .inl (fun _ => 0))), ((w 2), .inl (k 0, 10, .inl (fun _ => 0))), ((w 3), .inl (k 0, 60, .inl (fun _ => 0))), ((w 4), .inl (k 0, 10, .inl (fun _ => 0))), ((w 5), .inl (k 0, 60, .inl (fun _ => 0)))] := hD
  refine lv_iconst (v := 0) hx hb dX6_passYear_37 (by decide) ?_
  refine lv_istore_n (lv' := [(2, .int 0), (0, .ref (w 0)), (1, .int x)]) hx hb dX6_passYear_38 rfl hl (by decide) rfl (fun ls hl => ?_)
  refine lv_iload_n hx hb dX6_passYear_39 rfl (lv_at hl 0 rfl) ?_
  refine lv_aload_n hx hb dX6_passYear_40 rfl (lv_at hl 1 rfl) ?_
  refine va_get (D := D) (ci := 5) (v := .int 0) (C := RX6) (T := TX6) (N := 16) hx hb hts inlX6 hown hK hP 0 rfl rfl 0 (by decide) (hts _ mw_152) (fun _ h9 => h9) rfl dX6_passYear_41 ?_
  refine lv_icmp_ge (tgt := 101) hx hb dX6_passYear_44 (by decide) (fun _ => ?_) (fun c9 => absurd c9 (by decide))
  refine lv_aload_n hx hb dX6_passYear_101 rfl (lv_at hl 1 rfl) ?_
  refine lv_dup hx hb dX6_passYear_102 rfl ?_
  refine va_get (D := D) (ci := 5) (v := .int y) (C := RX6) (T := TX6) (N := 16) hx hb hts inlX6 hown hK hP 0 rfl rfl 1 (by decide) (hts _ mw_153) (fun _ h9 => h9) rfl dX6_passYear_103 ?_
  refine lv_iconst (v := 1) hx hb dX6_passYear_106 (by decide) ?_
  refine lv_iadd hx hb dX6_passYear_107 ?_
  refine lv_topi (fun z_1 ez_1 => ?_)
  refine va_put (D := D) (ci := 5) (v := .int z_1) (ty := .int) (C := RX6) (T := TX6) (N := 16) hx hb hts inlX6 tyX6 tyX6_ok nmX6 hown hK hP hD hS 0 rfl rfl 1 (by decide) (hts _ mw_153) (fun _ h9 => h9) rfl (by decide +kernel) rfl rfl (Nat.le_of_ble_eq_true rfl) dX6_passYear_108 (fun H locs hP hD hS => ?_)
  have hP : va_P D vwCl [((w 0), .inr (5, [.int 0, .int z_1, .int 3, .int 8, .int 4, .int 4, .int 0, .int 0, .int 0, .int 0, .int 0, .ref (w 1), .ref (w 2), .ref (w 3), .ref (w 4), .ref (w 5)])), ((w 1), .inl (k 0, 10, .inl (fun _ => 0))), ((w 2), .inl (k 0, 10, .inl (fun _ => 0))), ((w 3), .inl (k 0, 60, .inl (fun _ => 0))), ((w 4), .inl (k 0, 10, .inl (fun _ => 0))), ((w 5), .inl (k 0, 60, .inl (fun _ => 0)))] H := hP
  have hD : va_D A [((w 0), .inr (5, [.int 0, .int z_1, .int 3, .int 8, .int 4, .int 4, .int 0, .int 0, .int 0, .int 0, .int 0, .ref (w 1), .ref (w 2), .ref (w 3), .ref (w 4), .ref (w 5)])), ((w 1), .inl (k 0, 10, .inl (fun _ => 0))), ((w 2), .inl (k 0, 10, .inl (fun _ => 0))), ((w 3), .inl (k 0, 60, .inl (fun _ => 0))), ((w 4), .inl (k 0, 10, .inl (fun _ => 0))), ((w 5), .inl (k 0, 60, .inl (fun _ => 0)))] := hD
  have hP9 := hP.sub (ws' := [((w 0), .inr (5, [.int 0, .int z_1, .int 3, .int 8, .int 4, .int 4, .int 0, .int 0, .int 0, .int 0, .int 0, .ref (w 1), .ref (w 2), .ref (w 3), .ref (w 4), .ref (w 5)])), ((w 1), .inl (k 0, 10, .inl (fun _ => 0))), ((w 2), .inl (k 0, 10, .inl (fun _ => 0))), ((w 3), .inl (k 0, 60, .inl (fun _ => 0))), ((w 4), .inl (k 0, 10, .inl (fun _ => 0))), ((w 5), .inl (k 0, 60, .inl (fun _ => 0)))]) [0, 1, 2, 3, 4, 5] rfl
  have hD9 := hD.sub (ws' := [((w 0), .inr (5, [.int 0, .int z_1, .int 3, .int 8, .int 4, .int 4, .int 0, .int 0, .int 0, .int 0, .int 0, .ref (w 1), .ref (w 2), .ref (w 3), .ref (w 4), .ref (w 5)])), ((w 1), .inl (k 0, 10, .inl (fun _ => 0))), ((w 2), .inl (k 0, 10, .inl (fun _ => 0))), ((w 3), .inl (k 0, 60, .inl (fun _ => 0))), ((w 4), .inl (k 0, 10, .inl (fun _ => 0))), ((w 5), .inl (k 0, 60, .inl (fun _ => 0)))]) [0, 1, 2, 3, 4, 5] (by decide) rfl
  exact W.vret hx hb hr (fun t ht hW => ⟨⟨(z_1), rfl, trivial, by rw [ht]; exact hP9, hD9⟩, hS.F ht⟩) hS.2.2 dX6_passYear_111
set_option maxHeartbeats 4000000 in
set_option maxRecDepth 100000 in
theorem c_W_drySkippers (l : Launch) (D : va_G) (k : Nat → ClassId) (w : Nat → Nat) (v : Nat → Nat) (y : Int32) (z : Int32) (sz : Nat) : Met l yX6_drySkippers (Cond.code yX6_drySkippers cX6_drySkippers 2 (some .int) :: wsL_law) ({ frames := 2, cells := 0, slots := 0, locals := 120 } : Room) (va_Pc [.ref (w 0), .ref (v 0)] (pu D k sz [((w 0), .inr (5, [.int 0, .int y, .int 3, .int 8, .int 4, .int 4, .int 0, .int 0, .int 0, .int 0, .int 0, .ref (w 1), .ref (w 2), .ref (w 3), .ref (w 4), .ref (w 5)])), ((w 1), .inl (k 0, 10, .inl (fun _ => 0))), ((w 2), .inl (k 0, 10, .inl (fun _ => 0))), ((w 3), .inl (k 0, 60, .inl (fun _ => 0))), ((v 0), .inr (5, [.int 0, .int z, .int 3, .int 8, .int 4, .int 4, .int 0, .int 0, .int 0, .int 0, .int 0, .ref (v 1), .ref (v 2), .ref (v 3), .ref (v 4), .ref (v 5)])), ((v 1), .inl (k 0, 10, .inl (fun _ => 0))), ((v 2), .inl (k 0, 10, .inl (fun _ => 0))), ((v 3), .inl (k 0, 60, .inl (fun _ => 0))), ((v 4), .inl (k 0, 10, .inl (fun _ => 0))), ((v 5), .inl (k 0, 60, .inl (fun _ => 0)))])) (va_Qi (fun rr (uu : Int32) => rr = 0) (qu D (va_A [((w 0), .inr (5, [.int 0, .int y, .int 3, .int 8, .int 4, .int 4, .int 0, .int 0, .int 0, .int 0, .int 0, .ref (w 1), .ref (w 2), .ref (w 3), .ref (w 4), .ref (w 5)])), ((w 1), .inl (k 0, 10, .inl (fun _ => 0))), ((w 2), .inl (k 0, 10, .inl (fun _ => 0))), ((w 3), .inl (k 0, 60, .inl (fun _ => 0))), ((v 0), .inr (5, [.int 0, .int z, .int 3, .int 8, .int 4, .int 4, .int 0, .int 0, .int 0, .int 0, .int 0, .ref (v 1), .ref (v 2), .ref (v 3), .ref (v 4), .ref (v 5)])), ((v 1), .inl (k 0, 10, .inl (fun _ => 0))), ((v 2), .inl (k 0, 10, .inl (fun _ => 0))), ((v 3), .inl (k 0, 60, .inl (fun _ => 0))), ((v 4), .inl (k 0, 10, .inl (fun _ => 0))), ((v 5), .inl (k 0, 60, .inl (fun _ => 0)))] sz) (fun uu : Int32 => [((w 0), .inr (5, [.int 0, .int y, .int 3, .int 8, .int 4, .int 4, .int 0, .int 0, .int 0, .int 0, .int 0, .ref (w 1), .ref (w 2), .ref (w 3), .ref (w 4), .ref (w 5)])), ((w 1), .inl (k 0, 10, .inl (fun _ => 0))), ((w 2), .inl (k 0, 10, .inl (fun _ => 0))), ((w 3), .inl (k 0, 60, .inl (fun _ => 0))), ((v 0), .inr (5, [.int 0, .int uu, .int 3, .int 8, .int 4, .int 4, .int 0, .int 0, .int 0, .int 0, .int 0, .ref (v 1), .ref (v 2), .ref (v 3), .ref (v 4), .ref (v 5)])), ((v 1), .inl (k 0, 10, .inl (fun _ => 0))), ((v 2), .inl (k 0, 10, .inl (fun _ => 0))), ((v 3), .inl (k 0, 60, .inl (fun _ => 0))), ((v 4), .inl (k 0, 10, .inl (fun _ => 0))), ((v 5), .inl (k 0, 60, .inl (fun _ => 0)))])) (va_A [((w 0), .inr (5, [.int 0, .int y, .int 3, .int 8, .int 4, .int 4, .int 0, .int 0, .int 0, .int 0, .int 0, .ref (w 1), .ref (w 2), .ref (w 3), .ref (w 4), .ref (w 5)])), ((w 1), .inl (k 0, 10, .inl (fun _ => 0))), ((w 2), .inl (k 0, 10, .inl (fun _ => 0))), ((w 3), .inl (k 0, 60, .inl (fun _ => 0))), ((v 0), .inr (5, [.int 0, .int z, .int 3, .int 8, .int 4, .int 4, .int 0, .int 0, .int 0, .int 0, .int 0, .ref (v 1), .ref (v 2), .ref (v 3), .ref (v 4), .ref (v 5)])), ((v 1), .inl (k 0, 10, .inl (fun _ => 0))), ((v 2), .inl (k 0, 10, .inl (fun _ => 0))), ((v 3), .inl (k 0, 60, .inl (fun _ => 0))), ((v 4), .inl (k 0, 10, .inl (fun _ => 0))), ((v 5), .inl (k 0, 60, .inl (fun _ => 0)))] sz)) 0 0 (va_A [((w 0), .inr (5, [.int 0, .int y, .int 3, .int 8, .int 4, .int 4, .int 0, .int 0, .int 0, .int 0, .int 0, .ref (w 1), .ref (w 2), .ref (w 3), .ref (w 4), .ref (w 5)])), ((w 1), .inl (k 0, 10, .inl (fun _ => 0))), ((w 2), .inl (k 0, 10, .inl (fun _ => 0))), ((w 3), .inl (k 0, 60, .inl (fun _ => 0))), ((v 0), .inr (5, [.int 0, .int z, .int 3, .int 8, .int 4, .int 4, .int 0, .int 0, .int 0, .int 0, .int 0, .ref (v 1), .ref (v 2), .ref (v 3), .ref (v 4), .ref (v 5)])), ((v 1), .inl (k 0, 10, .inl (fun _ => 0))), ((v 2), .inl (k 0, 10, .inl (fun _ => 0))), ((v 3), .inl (k 0, 60, .inl (fun _ => 0))), ((v 4), .inl (k 0, 10, .inl (fun _ => 0))), ((v 5), .inl (k 0, 60, .inl (fun _ => 0)))] sz) := by
  refine Met.ofW (cc := cX6_drySkippers) (maxL := 2) (ret := (some .int)) (by decide) rfl ?_
  intro p e s m args below meth c s₁ B hml hv
  obtain ⟨rfl, hsz, hP, hK, hD0⟩ := hv
  have hx := B.exec
  have hb := B.bytes
  have hr := B.returns
  have hts : ∀ w ∈ wsL_law, w.before _ s = true := fun w h => atoms_spec (ws := Cond.code yX6_drySkippers cX6_drySkippers 2 (some .int) :: wsL_law) B.pre w (List.mem_cons_of_mem _ h)
  have hown : s.vm.findClass RX6 = some m.cls := findClass_of_methodNamed B.named
  have hlocks := B.notSynchronized
  subst hsz
  have hD := hD0.self (sz := s.heap.size)
  generalize hAe : va_A [((w 0), .inr (5, [.int 0, .int y, .int 3, .int 8, .int 4, .int 4, .int 0, .int 0, .int 0, .int 0, .int 0, .ref (w 1), .ref (w 2), .ref (w 3), .ref (w 4), .ref (w 5)])), ((w 1), .inl (k 0, 10, .inl (fun _ => 0))), ((w 2), .inl (k 0, 10, .inl (fun _ => 0))), ((w 3), .inl (k 0, 60, .inl (fun _ => 0))), ((v 0), .inr (5, [.int 0, .int z, .int 3, .int 8, .int 4, .int 4, .int 0, .int 0, .int 0, .int 0, .int 0, .ref (v 1), .ref (v 2), .ref (v 3), .ref (v 4), .ref (v 5)])), ((v 1), .inl (k 0, 10, .inl (fun _ => 0))), ((v 2), .inl (k 0, 10, .inl (fun _ => 0))), ((v 3), .inl (k 0, 60, .inl (fun _ => 0))), ((v 4), .inl (k 0, 10, .inl (fun _ => 0))), ((v 5), .inl (k 0, 60, .inl (fun _ => 0)))] s.heap.size = A at hD ⊢
  have hA : ∀ q : Nat, s.heap.size ≤ q → A q := fun q h => by rw [← hAe]; exact Or.inr h
  have hS : va_S A s.heap s.heap [] := va_S.rf
  have hP : va_P D vwCl [((w 0), .inr (5, [.int 0, .int y, .int 3, .int 8, .int 4, .int 4, .int 0, .int 0, .int 0, .int 0, .int 0, .ref (w 1), .ref (w 2), .ref (w 3), .ref (w 4), .ref (w 5)])), ((w 1), .inl (k 0, 10, .inl (fun _ => 0))), ((w 2), .inl (k 0, 10, .inl (fun _ => 0))), ((w 3), .inl (k 0, 60, .inl (fun _ => 0))), ((v 0), .inr (5, [.int 0, .int z, .int 3, .int 8, .int 4, .int 4, .int 0, .int 0, .int 0, .int 0, .int 0, .ref (v 1), .ref (v 2), .ref (v 3), .ref (v 4), .ref (v 5)])), ((v 1), .inl (k 0, 10, .inl (fun _ => 0))), ((v 2), .inl (k 0, 10, .inl (fun _ => 0))), ((v 3), .inl (k 0, 60, .inl (fun _ => 0))), ((v 4), .inl (k 0, 10, .inl (fun _ => 0))), ((v 5), .inl (k 0, 60, .inl (fun _ => 0)))] s.heap := hP
  have hl := lv_entry ([.ref (w 0), .ref (v 0)]) (n := 2) (Nat.le_of_ble_eq_true rfl)
  rw [lg_entry_eq]
  generalize (lg_sl ([.ref (w 0), .ref (v 0)]) ++ List.replicate (2 - (lg_sl ([.ref (w 0), .ref (v 0)])).length) Slot.unset).toArray = ls at hl ⊢
  have hl : lv_has ls 2 [(0, .ref (w 0)), (1, .ref (v 0))] := hl
  refine lv_aload_n hx hb dX6_drySkippers_0 rfl (lv_at hl 1 rfl) ?_
  refine lv_aload_n hx hb dX6_drySkippers_1 rfl (lv_at hl 0 rfl) ?_
  refine kV_uv (q0 := 0) (As := [.ref (w 0)]) (rest := []) (wc := [((v 0), .inr (5, [.int 0, .int z, .int 3, .int 8, .int 4, .int 4, .int 0, .int 0, .int 0, .int 0, .int 0, .ref (v 1), .ref (v 2), .ref (v 3), .ref (v 4), .ref (v 5)])), ((v 1), .inl (k 0, 10, .inl (fun _ => 0))), ((v 2), .inl (k 0, 10, .inl (fun _ => 0))), ((v 3), .inl (k 0, 60, .inl (fun _ => 0))), ((w 0), .inr (5, [.int 0, .int y, .int 3, .int 8, .int 4, .int 4, .int 0, .int 0, .int 0, .int 0, .int 0, .ref (w 1), .ref (w 2), .ref (w 3), .ref (w 4), .ref (w 5)])), ((w 1), .inl (k 0, 10, .inl (fun _ => 0))), ((w 2), .inl (k 0, 10, .inl (fun _ => 0))), ((w 3), .inl (k 0, 60, .inl (fun _ => 0)))]) (wr := [((v 4), .inl (k 0, 10, .inl (fun _ => 0))), ((v 5), .inl (k 0, 60, .inl (fun _ => 0)))]) ⟨hx, hb, hml, hown, hts⟩ (c_W_copyFrom l D k v w z y _) (gV mw_718 mw_276 mw_277 mw_19 mw_278) hd_yX6_copyFrom rfl rfl ⟨Nat.le_of_ble_eq_true rfl, Nat.le_of_ble_eq_true rfl⟩ hK hP hD hS hA [4, 5, 6, 7, 0, 1, 2, 3] [8, 9] rfl rfl (by decide) (by decide) (by decide) rfl rfl rfl rfl hl.1 rfl (Nat.le_of_ble_eq_true rfl) dX6_drySkippers_2 ⟨Nat.le_of_ble_eq_true rfl, Nat.le_of_ble_eq_true rfl⟩ (fun u_2 H locs hw hP hD hS => ?_)
  have hP : va_P D vwCl [((v 4), .inl (k 0, 10, .inl (fun _ => 0))), ((v 5), .inl (k 0, 60, .inl (fun _ => 0))), ((v 0), .inr (5, [.int 0, .int y, .int 3, .int 8, .int 4, .int 4, .int 0, .int 0, .int 0, .int 0, .int 0, .ref (v 1), .ref (v 2), .ref (v 3), .ref (v 4), .ref (v 5)])), ((v 1), .inl (k 0, 10, .inl (fun _ => 0))), ((v 2), .inl (k 0, 10, .inl (fun _ => 0))), ((v 3), .inl (k 0, 60, .inl (fun _ => 0))), ((w 0), .inr (5, [.int 0, .int y, .int 3, .int 8, .int 4, .int 4, .int 0, .int 0, .int 0, .int 0, .int 0, .ref (w 1), .ref (w 2), .ref (w 3), .ref (w 4), .ref (w 5)])), ((w 1), .inl (k 0, 10, .inl (fun _ => 0))), ((w 2), .inl (k 0, 10, .inl (fun _ => 0))), ((w 3), .inl (k 0, 60, .inl (fun _ => 0)))] H := hP
  have hD : va_D A [((v 4), .inl (k 0, 10, .inl (fun _ => 0))), ((v 5), .inl (k 0, 60, .inl (fun _ => 0))), ((v 0), .inr (5, [.int 0, .int y, .int 3, .int 8, .int 4, .int 4, .int 0, .int 0, .int 0, .int 0, .int 0, .ref (v 1), .ref (v 2), .ref (v 3), .ref (v 4), .ref (v 5)])), ((v 1), .inl (k 0, 10, .inl (fun _ => 0))), ((v 2), .inl (k 0, 10, .inl (fun _ => 0))), ((v 3), .inl (k 0, 60, .inl (fun _ => 0))), ((w 0), .inr (5, [.int 0, .int y, .int 3, .int 8, .int 4, .int 4, .int 0, .int 0, .int 0, .int 0, .int 0, .ref (w 1), .ref (w 2), .ref (w 3), .ref (w 4), .ref (w 5)])), ((w 1), .inl (k 0, 10, .inl (fun _ => 0))), ((w 2), .inl (k 0, 10, .inl (fun _ => 0))), ((w 3), .inl (k 0, 60, .inl (fun _ => 0)))] := hD
  refine lv_aload_n hx hb dX6_drySkippers_5 rfl (lv_at hl 1 rfl) ?_
  refine lv_aload_n hx hb dX6_drySkippers_6 rfl (lv_at hl 0 rfl) ?_
  refine kV_i (q0 := 0) (As := []) (rest := [.ref (v 0)]) (cs := [((w 0), .inr (5, [.int 0, .int y, .int 3, .int 8, .int 4, .int 4, .int 0, .int 0, .int 0, .int 0, .int 0, .ref (w 1), .ref (w 2), .ref (w 3), .ref (w 4), .ref (w 5)]))]) ⟨hx, hb, hml, hown, hts⟩ (c_W_thatched l D k _ y) (gV mw_719 mw_720 mw_721 mw_19 mw_722) hd_yX6_thatched rfl rfl ⟨Nat.le_of_ble_eq_true rfl, Nat.le_of_ble_eq_true rfl⟩ hK (hP.sub (ws' := [((w 0), .inr (5, [.int 0, .int y, .int 3, .int 8, .int 4, .int 4, .int 0, .int 0, .int 0, .int 0, .int 0, .ref (w 1), .ref (w 2), .ref (w 3), .ref (w 4), .ref (w 5)]))]) [6] rfl) rfl rfl rfl rfl hl.1 rfl (Nat.le_of_ble_eq_true rfl) dX6_drySkippers_7 ⟨Nat.le_of_ble_eq_true rfl, Nat.le_of_ble_eq_true rfl⟩ (fun r_3 hr_3 => ?_)
  obtain rfl : r_3 = 0 := hr_3
  refine kV_uv (q0 := 0) (As := [.int 0]) (rest := []) (wc := [((v 0), .inr (5, [.int 0, .int y, .int 3, .int 8, .int 4, .int 4, .int 0, .int 0, .int 0, .int 0, .int 0, .ref (v 1), .ref (v 2), .ref (v 3), .ref (v 4), .ref (v 5)])), ((v 1), .inl (k 0, 10, .inl (fun _ => 0))), ((v 2), .inl (k 0, 10, .inl (fun _ => 0))), ((v 3), .inl (k 0, 60, .inl (fun _ => 0))), ((v 4), .inl (k 0, 10, .inl (fun _ => 0))), ((v 5), .inl (k 0, 60, .inl (fun _ => 0)))]) (wr := [((w 0), .inr (5, [.int 0, .int y, .int 3, .int 8, .int 4, .int 4, .int 0, .int 0, .int 0, .int 0, .int 0, .ref (w 1), .ref (w 2), .ref (w 3), .ref (w 4), .ref (w 5)])), ((w 1), .inl (k 0, 10, .inl (fun _ => 0))), ((w 2), .inl (k 0, 10, .inl (fun _ => 0))), ((w 3), .inl (k 0, 60, .inl (fun _ => 0)))]) ⟨hx, hb, hml, hown, hts⟩ (c_W_passYear l D k v y 0 _) (gV mw_582 mw_479 mw_480 mw_19 mw_481) hd_yX6_passYear rfl rfl ⟨Nat.le_of_ble_eq_true rfl, Nat.le_of_ble_eq_true rfl⟩ hK hP hD hS hA [2, 3, 4, 5, 0, 1] [6, 7, 8, 9] rfl rfl (by decide) (by decide) (by decide) rfl rfl rfl rfl hl.1 rfl (Nat.le_of_ble_eq_true rfl) dX6_drySkippers_10 ⟨Nat.le_of_ble_eq_true rfl, Nat.le_of_ble_eq_true rfl⟩ (fun u_5 H locs hw hP hD hS => ?_)
  obtain ⟨v_6, rfl⟩ : ∃ z, z = u_5 := ⟨_, rfl⟩
  have hP : va_P D vwCl [((w 0), .inr (5, [.int 0, .int y, .int 3, .int 8, .int 4, .int 4, .int 0, .int 0, .int 0, .int 0, .int 0, .ref (w 1), .ref (w 2), .ref (w 3), .ref (w 4), .ref (w 5)])), ((w 1), .inl (k 0, 10, .inl (fun _ => 0))), ((w 2), .inl (k 0, 10, .inl (fun _ => 0))), ((w 3), .inl (k 0, 60, .inl (fun _ => 0))), ((v 0), .inr (5, [.int 0, .int v_6, .int 3, .int 8, .int 4, .int 4, .int 0, .int 0, .int 0, .int 0, .int 0, .ref (v 1), .ref (v 2), .ref (v 3), .ref (v 4), .ref (v 5)])), ((v 1), .inl (k 0, 10, .inl (fun _ => 0))), ((v 2), .inl (k 0, 10, .inl (fun _ => 0))), ((v 3), .inl (k 0, 60, .inl (fun _ => 0))), ((v 4), .inl (k 0, 10, .inl (fun _ => 0))), ((v 5), .inl (k 0, 60, .inl (fun _ => 0)))] H := hP
  have hD : va_D A [((w 0), .inr (5, [.int 0, .int y, .int 3, .int 8, .int 4, .int 4, .int 0, .int 0, .int 0, .int 0, .int 0, .ref (w 1), .ref (w 2), .ref (w 3), .ref (w 4), .ref (w 5)])), ((w 1), .inl (k 0, 10, .inl (fun _ => 0))), ((w 2), .inl (k 0, 10, .inl (fun _ => 0))), ((w 3), .inl (k 0, 60, .inl (fun _ => 0))), ((v 0), .inr (5, [.int 0, .int v_6, .int 3, .int 8, .int 4, .int 4, .int 0, .int 0, .int 0, .int 0, .int 0, .ref (v 1), .ref (v 2), .ref (v 3), .ref (v 4), .ref (v 5)])), ((v 1), .inl (k 0, 10, .inl (fun _ => 0))), ((v 2), .inl (k 0, 10, .inl (fun _ => 0))), ((v 3), .inl (k 0, 60, .inl (fun _ => 0))), ((v 4), .inl (k 0, 10, .inl (fun _ => 0))), ((v 5), .inl (k 0, 60, .inl (fun _ => 0)))] := hD
  refine lv_aload_n hx hb dX6_drySkippers_13 rfl (lv_at hl 0 rfl) ?_
  refine kV_i (q0 := 0) (As := []) (rest := []) (cs := [((w 0), .inr (5, [.int 0, .int y, .int 3, .int 8, .int 4, .int 4, .int 0, .int 0, .int 0, .int 0, .int 0, .ref (w 1), .ref (w 2), .ref (w 3), .ref (w 4), .ref (w 5)]))]) ⟨hx, hb, hml, hown, hts⟩ (c_W_thatched l D k _ y) (gV mw_719 mw_720 mw_721 mw_19 mw_722) hd_yX6_thatched rfl rfl ⟨Nat.le_of_ble_eq_true rfl, Nat.le_of_ble_eq_true rfl⟩ hK (hP.sub (ws' := [((w 0), .inr (5, [.int 0, .int y, .int 3, .int 8, .int 4, .int 4, .int 0, .int 0, .int 0, .int 0, .int 0, .ref (w 1), .ref (w 2), .ref (w 3), .ref (w 4), .ref (w 5)]))]) [0] rfl) rfl rfl rfl rfl hl.1 rfl (Nat.le_of_ble_eq_true rfl) dX6_drySkippers_14 ⟨Nat.le_of_ble_eq_true rfl, Nat.le_of_ble_eq_true rfl⟩ (fun r_7 hr_7 => ?_)
  obtain rfl : r_7 = 0 := hr_7
  refine lv_aload_n hx hb dX6_drySkippers_17 rfl (lv_at hl 1 rfl) ?_
  refine kV_i (q0 := 0) (As := []) (rest := [.int 0]) (cs := [((v 0), .inr (5, [.int 0, .int v_6, .int 3, .int 8, .int 4, .int 4, .int 0, .int 0, .int 0, .int 0, .int 0, .ref (v 1), .ref (v 2), .ref (v 3), .ref (v 4), .ref (v 5)]))]) ⟨hx, hb, hml, hown, hts⟩ (c_W_leaking l D k v v_6) (gV mw_723 mw_507 mw_508 mw_19 mw_509) hd_yX6_leaking rfl rfl ⟨Nat.le_of_ble_eq_true rfl, Nat.le_of_ble_eq_true rfl⟩ hK (hP.sub (ws' := [((v 0), .inr (5, [.int 0, .int v_6, .int 3, .int 8, .int 4, .int 4, .int 0, .int 0, .int 0, .int 0, .int 0, .ref (v 1), .ref (v 2), .ref (v 3), .ref (v 4), .ref (v 5)]))]) [4] rfl) rfl rfl rfl rfl hl.1 rfl (Nat.le_of_ble_eq_true rfl) dX6_drySkippers_18 ⟨Nat.le_of_ble_eq_true rfl, Nat.le_of_ble_eq_true rfl⟩ (fun r_8 hr_8 => ?_)
  obtain rfl : r_8 = 0 := hr_8
  refine lv_iconst (v := (-1)) hx hb dX6_drySkippers_21 (by decide) ?_
  refine lv_ixor hx hb dX6_drySkippers_22 ?_
  refine lv_ni (v := (-1)) (by decide) ?_
  refine lv_iand hx hb dX6_drySkippers_23 ?_
  refine lv_ni (v := 0) (by decide) ?_
  have hP9 := hP.sub (ws' := [((w 0), .inr (5, [.int 0, .int y, .int 3, .int 8, .int 4, .int 4, .int 0, .int 0, .int 0, .int 0, .int 0, .ref (w 1), .ref (w 2), .ref (w 3), .ref (w 4), .ref (w 5)])), ((w 1), .inl (k 0, 10, .inl (fun _ => 0))), ((w 2), .inl (k 0, 10, .inl (fun _ => 0))), ((w 3), .inl (k 0, 60, .inl (fun _ => 0))), ((v 0), .inr (5, [.int 0, .int v_6, .int 3, .int 8, .int 4, .int 4, .int 0, .int 0, .int 0, .int 0, .int 0, .ref (v 1), .ref (v 2), .ref (v 3), .ref (v 4), .ref (v 5)])), ((v 1), .inl (k 0, 10, .inl (fun _ => 0))), ((v 2), .inl (k 0, 10, .inl (fun _ => 0))), ((v 3), .inl (k 0, 60, .inl (fun _ => 0))), ((v 4), .inl (k 0, 10, .inl (fun _ => 0))), ((v 5), .inl (k 0, 60, .inl (fun _ => 0)))]) [0, 1, 2, 3, 4, 5, 6, 7, 8, 9] rfl
  have hD9 := hD.sub (ws' := [((w 0), .inr (5, [.int 0, .int y, .int 3, .int 8, .int 4, .int 4, .int 0, .int 0, .int 0, .int 0, .int 0, .ref (w 1), .ref (w 2), .ref (w 3), .ref (w 4), .ref (w 5)])), ((w 1), .inl (k 0, 10, .inl (fun _ => 0))), ((w 2), .inl (k 0, 10, .inl (fun _ => 0))), ((w 3), .inl (k 0, 60, .inl (fun _ => 0))), ((v 0), .inr (5, [.int 0, .int v_6, .int 3, .int 8, .int 4, .int 4, .int 0, .int 0, .int 0, .int 0, .int 0, .ref (v 1), .ref (v 2), .ref (v 3), .ref (v 4), .ref (v 5)])), ((v 1), .inl (k 0, 10, .inl (fun _ => 0))), ((v 2), .inl (k 0, 10, .inl (fun _ => 0))), ((v 3), .inl (k 0, 60, .inl (fun _ => 0))), ((v 4), .inl (k 0, 10, .inl (fun _ => 0))), ((v 5), .inl (k 0, 60, .inl (fun _ => 0)))]) [0, 1, 2, 3, 4, 5, 6, 7, 8, 9] (by decide) rfl
  exact W.iret (v := 0) hx hb hr (fun t ht hW => ⟨⟨0, (v_6), rfl, rfl, by rw [ht]; exact hP9, hD9⟩, hS.F ht⟩) hS.2.2 dX6_drySkippers_24
set_option maxHeartbeats 4000000 in
set_option maxRecDepth 100000 in
theorem c_W_clear (l : Launch) (D : va_G) (k : Nat → ClassId) (w : Nat → Nat) (y : Int32) (sz : Nat) : Met l yX6_clear (Cond.code yX6_clear cX6_clear 2 none :: wsL_law) ({ frames := 0, cells := 0, slots := 0, locals := 0 } : Room) (va_Pc [.ref (w 0)] (pu D k sz [((w 0), .inr (5, [.int 0, .int y, .int 3, .int 8, .int 4, .int 4, .int 0, .int 0, .int 0, .int 0, .int 0, .ref (w 1), .ref (w 2), .ref (w 3), .ref (w 4), .ref (w 5)])), ((w 1), .inl (k 0, 10, .inl (fun _ => 0))), ((w 2), .inl (k 0, 10, .inl (fun _ => 0)))])) (va_Qv (fun uu : Unit => True) (qu D (va_A [((w 0), .inr (5, [.int 0, .int y, .int 3, .int 8, .int 4, .int 4, .int 0, .int 0, .int 0, .int 0, .int 0, .ref (w 1), .ref (w 2), .ref (w 3), .ref (w 4), .ref (w 5)])), ((w 1), .inl (k 0, 10, .inl (fun _ => 0))), ((w 2), .inl (k 0, 10, .inl (fun _ => 0)))] sz) (fun uu : Unit => [((w 0), .inr (5, [.int 0, .int 0, .int 3, .int 8, .int 4, .int 4, .int 0, .int 0, .int 0, .int 0, .int 0, .ref (w 1), .ref (w 2), .ref (w 3), .ref (w 4), .ref (w 5)])), ((w 1), .inl (k 0, 10, .inl (fun _ => 0))), ((w 2), .inl (k 0, 10, .inl (fun _ => 0)))])) (va_A [((w 0), .inr (5, [.int 0, .int y, .int 3, .int 8, .int 4, .int 4, .int 0, .int 0, .int 0, .int 0, .int 0, .ref (w 1), .ref (w 2), .ref (w 3), .ref (w 4), .ref (w 5)])), ((w 1), .inl (k 0, 10, .inl (fun _ => 0))), ((w 2), .inl (k 0, 10, .inl (fun _ => 0)))] sz)) 0 0 (va_A [((w 0), .inr (5, [.int 0, .int y, .int 3, .int 8, .int 4, .int 4, .int 0, .int 0, .int 0, .int 0, .int 0, .ref (w 1), .ref (w 2), .ref (w 3), .ref (w 4), .ref (w 5)])), ((w 1), .inl (k 0, 10, .inl (fun _ => 0))), ((w 2), .inl (k 0, 10, .inl (fun _ => 0)))] sz) := by
  refine Met.ofW (cc := cX6_clear) (maxL := 2) (ret := none) (by decide) rfl ?_
  intro p e s m args below meth c s₁ B hml hv
  obtain ⟨rfl, hsz, hP, hK, hD0⟩ := hv
  have hx := B.exec
  have hb := B.bytes
  have hr := B.returns
  have hts : ∀ w ∈ wsL_law, w.before _ s = true := fun w h => atoms_spec (ws := Cond.code yX6_clear cX6_clear 2 none :: wsL_law) B.pre w (List.mem_cons_of_mem _ h)
  have hown : s.vm.findClass RX6 = some m.cls := findClass_of_methodNamed B.named
  have hlocks := B.notSynchronized
  subst hsz
  have hD := hD0.self (sz := s.heap.size)
  generalize hAe : va_A [((w 0), .inr (5, [.int 0, .int y, .int 3, .int 8, .int 4, .int 4, .int 0, .int 0, .int 0, .int 0, .int 0, .ref (w 1), .ref (w 2), .ref (w 3), .ref (w 4), .ref (w 5)])), ((w 1), .inl (k 0, 10, .inl (fun _ => 0))), ((w 2), .inl (k 0, 10, .inl (fun _ => 0)))] s.heap.size = A at hD ⊢
  have hA : ∀ q : Nat, s.heap.size ≤ q → A q := fun q h => by rw [← hAe]; exact Or.inr h
  have hS : va_S A s.heap s.heap [] := va_S.rf
  have hP : va_P D vwCl [((w 0), .inr (5, [.int 0, .int y, .int 3, .int 8, .int 4, .int 4, .int 0, .int 0, .int 0, .int 0, .int 0, .ref (w 1), .ref (w 2), .ref (w 3), .ref (w 4), .ref (w 5)])), ((w 1), .inl (k 0, 10, .inl (fun _ => 0))), ((w 2), .inl (k 0, 10, .inl (fun _ => 0)))] s.heap := hP
  have hl := lv_entry ([.ref (w 0)]) (n := 2) (Nat.le_of_ble_eq_true rfl)
  rw [lg_entry_eq]
  generalize (lg_sl ([.ref (w 0)]) ++ List.replicate (2 - (lg_sl ([.ref (w 0)])).length) Slot.unset).toArray = ls at hl ⊢
  have hl : lv_has ls 2 [(0, .ref (w 0))] := hl
  refine lv_aload_n hx hb dX6_clear_0 rfl (lv_at hl 0 rfl) ?_
  refine lv_iconst (v := 0) hx hb dX6_clear_1 (by decide) ?_
  refine va_put (D := D) (ci := 5) (v := .int 0) (ty := .int) (C := RX6) (T := TX6) (N := 16) hx hb hts inlX6 tyX6 tyX6_ok nmX6 hown hK hP hD hS 0 rfl rfl 0 (by decide) (hts _ mw_152) (fun _ h9 => h9) rfl (by decide +kernel) rfl rfl (Nat.le_of_ble_eq_true rfl) dX6_clear_2 (fun H locs hP hD hS => ?_)
  have hP : va_P D vwCl [((w 0), .inr (5, [.int 0, .int y, .int 3, .int 8, .int 4, .int 4, .int 0, .int 0, .int 0, .int 0, .int 0, .ref (w 1), .ref (w 2), .ref (w 3), .ref (w 4), .ref (w 5)])), ((w 1), .inl (k 0, 10, .inl (fun _ => 0))), ((w 2), .inl (k 0, 10, .inl (fun _ => 0)))] H := hP
  have hD : va_D A [((w 0), .inr (5, [.int 0, .int y, .int 3, .int 8, .int 4, .int 4, .int 0, .int 0, .int 0, .int 0, .int 0, .ref (w 1), .ref (w 2), .ref (w 3), .ref (w 4), .ref (w 5)])), ((w 1), .inl (k 0, 10, .inl (fun _ => 0))), ((w 2), .inl (k 0, 10, .inl (fun _ => 0)))] := hD
  refine lv_aload_n hx hb dX6_clear_5 rfl (lv_at hl 0 rfl) ?_
  refine lv_iconst (v := 0) hx hb dX6_clear_6 (by decide) ?_
  refine va_put (D := D) (ci := 5) (v := .int 0) (ty := .int) (C := RX6) (T := TX6) (N := 16) hx hb hts inlX6 tyX6 tyX6_ok nmX6 hown hK hP hD hS 0 rfl rfl 1 (by decide) (hts _ mw_153) (fun _ h9 => h9) rfl (by decide +kernel) rfl rfl (Nat.le_of_ble_eq_true rfl) dX6_clear_7 (fun H locs hP hD hS => ?_)
  have hP : va_P D vwCl [((w 0), .inr (5, [.int 0, .int 0, .int 3, .int 8, .int 4, .int 4, .int 0, .int 0, .int 0, .int 0, .int 0, .ref (w 1), .ref (w 2), .ref (w 3), .ref (w 4), .ref (w 5)])), ((w 1), .inl (k 0, 10, .inl (fun _ => 0))), ((w 2), .inl (k 0, 10, .inl (fun _ => 0)))] H := hP
  have hD : va_D A [((w 0), .inr (5, [.int 0, .int 0, .int 3, .int 8, .int 4, .int 4, .int 0, .int 0, .int 0, .int 0, .int 0, .ref (w 1), .ref (w 2), .ref (w 3), .ref (w 4), .ref (w 5)])), ((w 1), .inl (k 0, 10, .inl (fun _ => 0))), ((w 2), .inl (k 0, 10, .inl (fun _ => 0)))] := hD
  refine lv_aload_n hx hb dX6_clear_10 rfl (lv_at hl 0 rfl) ?_
  refine lv_iconst (v := 3) hx hb dX6_clear_11 (by decide) ?_
  refine va_put (D := D) (ci := 5) (v := .int 3) (ty := .int) (C := RX6) (T := TX6) (N := 16) hx hb hts inlX6 tyX6 tyX6_ok nmX6 hown hK hP hD hS 0 rfl rfl 2 (by decide) (hts _ mw_54) (fun _ h9 => h9) rfl (by decide +kernel) rfl rfl (Nat.le_of_ble_eq_true rfl) dX6_clear_12 (fun H locs hP hD hS => ?_)
  have hP : va_P D vwCl [((w 0), .inr (5, [.int 0, .int 0, .int 3, .int 8, .int 4, .int 4, .int 0, .int 0, .int 0, .int 0, .int 0, .ref (w 1), .ref (w 2), .ref (w 3), .ref (w 4), .ref (w 5)])), ((w 1), .inl (k 0, 10, .inl (fun _ => 0))), ((w 2), .inl (k 0, 10, .inl (fun _ => 0)))] H := hP
  have hD : va_D A [((w 0), .inr (5, [.int 0, .int 0, .int 3, .int 8, .int 4, .int 4, .int 0, .int 0, .int 0, .int 0, .int 0, .ref (w 1), .ref (w 2), .ref (w 3), .ref (w 4), .ref (w 5)])), ((w 1), .inl (k 0, 10, .inl (fun _ => 0))), ((w 2), .inl (k 0, 10, .inl (fun _ => 0)))] := hD
  refine lv_aload_n hx hb dX6_clear_15 rfl (lv_at hl 0 rfl) ?_
  refine lv_bipush (v := 8) hx hb dX6_clear_16 (by decide) ?_
  refine va_put (D := D) (ci := 5) (v := .int 8) (ty := .int) (C := RX6) (T := TX6) (N := 16) hx hb hts inlX6 tyX6 tyX6_ok nmX6 hown hK hP hD hS 0 rfl rfl 3 (by decide) (hts _ mw_55) (fun _ h9 => h9) rfl (by decide +kernel) rfl rfl (Nat.le_of_ble_eq_true rfl) dX6_clear_18 (fun H locs hP hD hS => ?_)
  have hP : va_P D vwCl [((w 0), .inr (5, [.int 0, .int 0, .int 3, .int 8, .int 4, .int 4, .int 0, .int 0, .int 0, .int 0, .int 0, .ref (w 1), .ref (w 2), .ref (w 3), .ref (w 4), .ref (w 5)])), ((w 1), .inl (k 0, 10, .inl (fun _ => 0))), ((w 2), .inl (k 0, 10, .inl (fun _ => 0)))] H := hP
  have hD : va_D A [((w 0), .inr (5, [.int 0, .int 0, .int 3, .int 8, .int 4, .int 4, .int 0, .int 0, .int 0, .int 0, .int 0, .ref (w 1), .ref (w 2), .ref (w 3), .ref (w 4), .ref (w 5)])), ((w 1), .inl (k 0, 10, .inl (fun _ => 0))), ((w 2), .inl (k 0, 10, .inl (fun _ => 0)))] := hD
  refine lv_aload_n hx hb dX6_clear_21 rfl (lv_at hl 0 rfl) ?_
  refine lv_iconst (v := 4) hx hb dX6_clear_22 (by decide) ?_
  refine va_put (D := D) (ci := 5) (v := .int 4) (ty := .int) (C := RX6) (T := TX6) (N := 16) hx hb hts inlX6 tyX6 tyX6_ok nmX6 hown hK hP hD hS 0 rfl rfl 4 (by decide) (hts _ mw_56) (fun _ h9 => h9) rfl (by decide +kernel) rfl rfl (Nat.le_of_ble_eq_true rfl) dX6_clear_23 (fun H locs hP hD hS => ?_)
  have hP : va_P D vwCl [((w 0), .inr (5, [.int 0, .int 0, .int 3, .int 8, .int 4, .int 4, .int 0, .int 0, .int 0, .int 0, .int 0, .ref (w 1), .ref (w 2), .ref (w 3), .ref (w 4), .ref (w 5)])), ((w 1), .inl (k 0, 10, .inl (fun _ => 0))), ((w 2), .inl (k 0, 10, .inl (fun _ => 0)))] H := hP
  have hD : va_D A [((w 0), .inr (5, [.int 0, .int 0, .int 3, .int 8, .int 4, .int 4, .int 0, .int 0, .int 0, .int 0, .int 0, .ref (w 1), .ref (w 2), .ref (w 3), .ref (w 4), .ref (w 5)])), ((w 1), .inl (k 0, 10, .inl (fun _ => 0))), ((w 2), .inl (k 0, 10, .inl (fun _ => 0)))] := hD
  refine lv_aload_n hx hb dX6_clear_26 rfl (lv_at hl 0 rfl) ?_
  refine lv_iconst (v := 4) hx hb dX6_clear_27 (by decide) ?_
  refine va_put (D := D) (ci := 5) (v := .int 4) (ty := .int) (C := RX6) (T := TX6) (N := 16) hx hb hts inlX6 tyX6 tyX6_ok nmX6 hown hK hP hD hS 0 rfl rfl 5 (by decide) (hts _ mw_57) (fun _ h9 => h9) rfl (by decide +kernel) rfl rfl (Nat.le_of_ble_eq_true rfl) dX6_clear_28 (fun H locs hP hD hS => ?_)
  have hP : va_P D vwCl [((w 0), .inr (5, [.int 0, .int 0, .int 3, .int 8, .int 4, .int 4, .int 0, .int 0, .int 0, .int 0, .int 0, .ref (w 1), .ref (w 2), .ref (w 3), .ref (w 4), .ref (w 5)])), ((w 1), .inl (k 0, 10, .inl (fun _ => 0))), ((w 2), .inl (k 0, 10, .inl (fun _ => 0)))] H := hP
  have hD : va_D A [((w 0), .inr (5, [.int 0, .int 0, .int 3, .int 8, .int 4, .int 4, .int 0, .int 0, .int 0, .int 0, .int 0, .ref (w 1), .ref (w 2), .ref (w 3), .ref (w 4), .ref (w 5)])), ((w 1), .inl (k 0, 10, .inl (fun _ => 0))), ((w 2), .inl (k 0, 10, .inl (fun _ => 0)))] := hD
  refine lv_aload_n hx hb dX6_clear_31 rfl (lv_at hl 0 rfl) ?_
  refine lv_iconst (v := 0) hx hb dX6_clear_32 (by decide) ?_
  refine va_put (D := D) (ci := 5) (v := .int 0) (ty := .boolean) (C := RX6) (T := TX6) (N := 16) hx hb hts inlX6 tyX6 tyX6_ok nmX6 hown hK hP hD hS 0 rfl rfl 6 (by decide) (hts _ mw_154) (fun _ h9 => h9) rfl (by decide +kernel) rfl rfl (Nat.le_of_ble_eq_true rfl) dX6_clear_33 (fun H locs hP hD hS => ?_)
  have hP : va_P D vwCl [((w 0), .inr (5, [.int 0, .int 0, .int 3, .int 8, .int 4, .int 4, .int 0, .int 0, .int 0, .int 0, .int 0, .ref (w 1), .ref (w 2), .ref (w 3), .ref (w 4), .ref (w 5)])), ((w 1), .inl (k 0, 10, .inl (fun _ => 0))), ((w 2), .inl (k 0, 10, .inl (fun _ => 0)))] H := hP
  have hD : va_D A [((w 0), .inr (5, [.int 0, .int 0, .int 3, .int 8, .int 4, .int 4, .int 0, .int 0, .int 0, .int 0, .int 0, .ref (w 1), .ref (w 2), .ref (w 3), .ref (w 4), .ref (w 5)])), ((w 1), .inl (k 0, 10, .inl (fun _ => 0))), ((w 2), .inl (k 0, 10, .inl (fun _ => 0)))] := hD
  refine lv_aload_n hx hb dX6_clear_36 rfl (lv_at hl 0 rfl) ?_
  refine lv_iconst (v := 0) hx hb dX6_clear_37 (by decide) ?_
  refine va_put (D := D) (ci := 5) (v := .int 0) (ty := .int) (C := RX6) (T := TX6) (N := 16) hx hb hts inlX6 tyX6 tyX6_ok nmX6 hown hK hP hD hS 0 rfl rfl 7 (by decide) (hts _ mw_155) (fun _ h9 => h9) rfl (by decide +kernel) rfl rfl (Nat.le_of_ble_eq_true rfl) dX6_clear_38 (fun H locs hP hD hS => ?_)
  have hP : va_P D vwCl [((w 0), .inr (5, [.int 0, .int 0, .int 3, .int 8, .int 4, .int 4, .int 0, .int 0, .int 0, .int 0, .int 0, .ref (w 1), .ref (w 2), .ref (w 3), .ref (w 4), .ref (w 5)])), ((w 1), .inl (k 0, 10, .inl (fun _ => 0))), ((w 2), .inl (k 0, 10, .inl (fun _ => 0)))] H := hP
  have hD : va_D A [((w 0), .inr (5, [.int 0, .int 0, .int 3, .int 8, .int 4, .int 4, .int 0, .int 0, .int 0, .int 0, .int 0, .ref (w 1), .ref (w 2), .ref (w 3), .ref (w 4), .ref (w 5)])), ((w 1), .inl (k 0, 10, .inl (fun _ => 0))), ((w 2), .inl (k 0, 10, .inl (fun _ => 0)))] := hD
  refine lv_aload_n hx hb dX6_clear_41 rfl (lv_at hl 0 rfl) ?_
  refine lv_iconst (v := 0) hx hb dX6_clear_42 (by decide) ?_
  refine va_put (D := D) (ci := 5) (v := .int 0) (ty := .int) (C := RX6) (T := TX6) (N := 16) hx hb hts inlX6 tyX6 tyX6_ok nmX6 hown hK hP hD hS 0 rfl rfl 8 (by decide) (hts _ mw_156) (fun _ h9 => h9) rfl (by decide +kernel) rfl rfl (Nat.le_of_ble_eq_true rfl) dX6_clear_43 (fun H locs hP hD hS => ?_)
  have hP : va_P D vwCl [((w 0), .inr (5, [.int 0, .int 0, .int 3, .int 8, .int 4, .int 4, .int 0, .int 0, .int 0, .int 0, .int 0, .ref (w 1), .ref (w 2), .ref (w 3), .ref (w 4), .ref (w 5)])), ((w 1), .inl (k 0, 10, .inl (fun _ => 0))), ((w 2), .inl (k 0, 10, .inl (fun _ => 0)))] H := hP
  have hD : va_D A [((w 0), .inr (5, [.int 0, .int 0, .int 3, .int 8, .int 4, .int 4, .int 0, .int 0, .int 0, .int 0, .int 0, .ref (w 1), .ref (w 2), .ref (w 3), .ref (w 4), .ref (w 5)])), ((w 1), .inl (k 0, 10, .inl (fun _ => 0))), ((w 2), .inl (k 0, 10, .inl (fun _ => 0)))] := hD
  refine lv_aload_n hx hb dX6_clear_46 rfl (lv_at hl 0 rfl) ?_
  refine lv_iconst (v := 0) hx hb dX6_clear_47 (by decide) ?_
  refine va_put (D := D) (ci := 5) (v := .int 0) (ty := .int) (C := RX6) (T := TX6) (N := 16) hx hb hts inlX6 tyX6 tyX6_ok nmX6 hown hK hP hD hS 0 rfl rfl 9 (by decide) (hts _ mw_157) (fun _ h9 => h9) rfl (by decide +kernel) rfl rfl (Nat.le_of_ble_eq_true rfl) dX6_clear_48 (fun H locs hP hD hS => ?_)
  have hP : va_P D vwCl [((w 0), .inr (5, [.int 0, .int 0, .int 3, .int 8, .int 4, .int 4, .int 0, .int 0, .int 0, .int 0, .int 0, .ref (w 1), .ref (w 2), .ref (w 3), .ref (w 4), .ref (w 5)])), ((w 1), .inl (k 0, 10, .inl (fun _ => 0))), ((w 2), .inl (k 0, 10, .inl (fun _ => 0)))] H := hP
  have hD : va_D A [((w 0), .inr (5, [.int 0, .int 0, .int 3, .int 8, .int 4, .int 4, .int 0, .int 0, .int 0, .int 0, .int 0, .ref (w 1), .ref (w 2), .ref (w 3), .ref (w 4), .ref (w 5)])), ((w 1), .inl (k 0, 10, .inl (fun _ => 0))), ((w 2), .inl (k 0, 10, .inl (fun _ => 0)))] := hD
  refine lv_aload_n hx hb dX6_clear_51 rfl (lv_at hl 0 rfl) ?_
  refine lv_iconst (v := 0) hx hb dX6_clear_52 (by decide) ?_
  refine va_put (D := D) (ci := 5) (v := .int 0) (ty := .int) (C := RX6) (T := TX6) (N := 16) hx hb hts inlX6 tyX6 tyX6_ok nmX6 hown hK hP hD hS 0 rfl rfl 10 (by decide) (hts _ mw_158) (fun _ h9 => h9) rfl (by decide +kernel) rfl rfl (Nat.le_of_ble_eq_true rfl) dX6_clear_53 (fun H locs hP hD hS => ?_)
  have hP : va_P D vwCl [((w 0), .inr (5, [.int 0, .int 0, .int 3, .int 8, .int 4, .int 4, .int 0, .int 0, .int 0, .int 0, .int 0, .ref (w 1), .ref (w 2), .ref (w 3), .ref (w 4), .ref (w 5)])), ((w 1), .inl (k 0, 10, .inl (fun _ => 0))), ((w 2), .inl (k 0, 10, .inl (fun _ => 0)))] H := hP
  have hD : va_D A [((w 0), .inr (5, [.int 0, .int 0, .int 3, .int 8, .int 4, .int 4, .int 0, .int 0, .int 0, .int 0, .int 0, .ref (w 1), .ref (w 2), .ref (w 3), .ref (w 4), .ref (w 5)])), ((w 1), .inl (k 0, 10, .inl (fun _ => 0))), ((w 2), .inl (k 0, 10, .inl (fun _ => 0)))] := hD
  refine lv_iconst (v := 0) hx hb dX6_clear_56 (by decide) ?_
  refine lv_istore_n (lv' := [(1, .int 0), (0, .ref (w 0))]) hx hb dX6_clear_57 rfl hl (by decide) rfl (fun ls hl => ?_)
  refine W_loop (σ := Int32) (fun xx H locs ls => (0 ≤ xx.toInt ∧ xx.toInt ≤ 10) ∧ va_P D vwCl [((w 0), .inr (5, [.int 0, .int 0, .int 3, .int 8, .int 4, .int 4, .int 0, .int 0, .int 0, .int 0, .int 0, .ref (w 1), .ref (w 2), .ref (w 3), .ref (w 4), .ref (w 5)])), ((w 1), .inl (k 0, 10, .inl (fun _ => 0))), ((w 2), .inl (k 0, 10, .inl (fun _ => 0)))] H ∧ va_D A [((w 0), .inr (5, [.int 0, .int 0, .int 3, .int 8, .int 4, .int 4, .int 0, .int 0, .int 0, .int 0, .int 0, .ref (w 1), .ref (w 2), .ref (w 3), .ref (w 4), .ref (w 5)])), ((w 1), .inl (k 0, 10, .inl (fun _ => 0))), ((w 2), .inl (k 0, 10, .inl (fun _ => 0)))] ∧ va_S A s.heap H locs ∧ lv_has ls 2 [(1, .int xx), (0, .ref (w 0))]) (fun xx => (10 - xx.toInt).toNat) ?_ (0) _ _ ls ⟨(show 0 ≤ (0 : Int32).toInt ∧ (0 : Int32).toInt ≤ 10 from ⟨by decide, by decide⟩), hP.sub [0, 1, 2] rfl, hD.sub [0, 1, 2] (by decide) rfl, hS, lv_sub hl [0, 1] rfl⟩
  intro xx H locs ls hI ih
  obtain ⟨i_1, rfl⟩ : ∃ z, z = xx := ⟨_, rfl⟩
  obtain ⟨h_2, hP, hD, hS, hl⟩ := hI
  have h_2 : 0 ≤ i_1.toInt ∧ i_1.toInt ≤ 10 := h_2
  obtain ⟨h_2a, h_2b⟩ := h_2
  have hP : va_P D vwCl [((w 0), .inr (5, [.int 0, .int 0, .int 3, .int 8, .int 4, .int 4, .int 0, .int 0, .int 0, .int 0, .int 0, .ref (w 1), .ref (w 2), .ref (w 3), .ref (w 4), .ref (w 5)])), ((w 1), .inl (k 0, 10, .inl (fun _ => 0))), ((w 2), .inl (k 0, 10, .inl (fun _ => 0)))] H := hP
  have hD : va_D A [((w 0), .inr (5, [.int 0, .int 0, .int 3, .int 8, .int 4, .int 4, .int 0, .int 0, .int 0, .int 0, .int 0, .ref (w 1), .ref (w 2), .ref (w 3), .ref (w 4), .ref (w 5)])), ((w 1), .inl (k 0, 10, .inl (fun _ => 0))), ((w 2), .inl (k 0, 10, .inl (fun _ => 0)))] := hD
  have hl : lv_has ls 2 [(1, .int i_1), (0, .ref (w 0))] := hl
  refine lv_iload_n hx hb dX6_clear_58 rfl (lv_at hl 0 rfl) ?_
  refine lv_bipush (v := 10) hx hb dX6_clear_59 (by decide) ?_
  refine lv_icmp_ge (tgt := 84) hx hb dX6_clear_61 (by decide) (fun c_3 => ?_) (fun c_3 => ?_)
  · have c_3 : 10 ≤ i_1.toInt := ti_le c_3
    have qc_3 : i_1 = 10 := ti_of (show i_1.toInt = 10 from by omega)
    have hP9 := hP.sub (ws' := [((w 0), .inr (5, [.int 0, .int 0, .int 3, .int 8, .int 4, .int 4, .int 0, .int 0, .int 0, .int 0, .int 0, .ref (w 1), .ref (w 2), .ref (w 3), .ref (w 4), .ref (w 5)])), ((w 1), .inl (k 0, 10, .inl (fun _ => 0))), ((w 2), .inl (k 0, 10, .inl (fun _ => 0)))]) [0, 1, 2] rfl
    have hD9 := hD.sub (ws' := [((w 0), .inr (5, [.int 0, .int 0, .int 3, .int 8, .int 4, .int 4, .int 0, .int 0, .int 0, .int 0, .int 0, .ref (w 1), .ref (w 2), .ref (w 3), .ref (w 4), .ref (w 5)])), ((w 1), .inl (k 0, 10, .inl (fun _ => 0))), ((w 2), .inl (k 0, 10, .inl (fun _ => 0)))]) [0, 1, 2] (by decide) rfl
    exact W.vret hx hb hr (fun t ht hW => ⟨⟨(), rfl, trivial, by rw [ht]; exact hP9, hD9⟩, hS.F ht⟩) hS.2.2 dX6_clear_84
  · have c_3 : i_1.toInt < 10 := ti_nle c_3
    refine lv_aload_n hx hb dX6_clear_64 rfl (lv_at hl 1 rfl) ?_
    refine va_get (D := D) (ci := 5) (v := .ref (w 1)) (C := RX6) (T := TX6) (N := 16) hx hb hts inlX6 hown hK hP 0 rfl rfl 11 (by decide) (hts _ mw_58) (fun _ h9 => h9) rfl dX6_clear_65 ?_
    refine lv_iload_n hx hb dX6_clear_68 rfl (lv_at hl 0 rfl) ?_
    refine lv_iconst (v := 0) hx hb dX6_clear_69 (by decide) ?_
    refine va_iast hx hb hK hP hD hS 1 0 rfl rfl (vp_in_o (by omega) (by omega)) dX6_clear_70 (fun H locs hP hD hS => ?_)
    have hP : va_P D vwCl [((w 0), .inr (5, [.int 0, .int 0, .int 3, .int 8, .int 4, .int 4, .int 0, .int 0, .int 0, .int 0, .int 0, .ref (w 1), .ref (w 2), .ref (w 3), .ref (w 4), .ref (w 5)])), ((w 1), .inl (k 0, 10, .inl (upd (fun _ => 0) i_1.toNatClampNeg 0))), ((w 2), .inl (k 0, 10, .inl (fun _ => 0)))] H := hP
    have hD : va_D A [((w 0), .inr (5, [.int 0, .int 0, .int 3, .int 8, .int 4, .int 4, .int 0, .int 0, .int 0, .int 0, .int 0, .ref (w 1), .ref (w 2), .ref (w 3), .ref (w 4), .ref (w 5)])), ((w 1), .inl (k 0, 10, .inl (upd (fun _ => 0) i_1.toNatClampNeg 0))), ((w 2), .inl (k 0, 10, .inl (fun _ => 0)))] := hD
    rw [upd0] at hP hD
    refine lv_aload_n hx hb dX6_clear_71 rfl (lv_at hl 1 rfl) ?_
    refine va_get (D := D) (ci := 5) (v := .ref (w 2)) (C := RX6) (T := TX6) (N := 16) hx hb hts inlX6 hown hK hP 0 rfl rfl 12 (by decide) (hts _ mw_59) (fun _ h9 => h9) rfl dX6_clear_72 ?_
    refine lv_iload_n hx hb dX6_clear_75 rfl (lv_at hl 0 rfl) ?_
    refine lv_iconst (v := 0) hx hb dX6_clear_76 (by decide) ?_
    refine va_iast hx hb hK hP hD hS 2 0 rfl rfl (vp_in_o (by omega) (by omega)) dX6_clear_77 (fun H locs hP hD hS => ?_)
    have hP : va_P D vwCl [((w 0), .inr (5, [.int 0, .int 0, .int 3, .int 8, .int 4, .int 4, .int 0, .int 0, .int 0, .int 0, .int 0, .ref (w 1), .ref (w 2), .ref (w 3), .ref (w 4), .ref (w 5)])), ((w 1), .inl (k 0, 10, .inl (fun _ => 0))), ((w 2), .inl (k 0, 10, .inl (upd (fun _ => 0) i_1.toNatClampNeg 0)))] H := hP
    have hD : va_D A [((w 0), .inr (5, [.int 0, .int 0, .int 3, .int 8, .int 4, .int 4, .int 0, .int 0, .int 0, .int 0, .int 0, .ref (w 1), .ref (w 2), .ref (w 3), .ref (w 4), .ref (w 5)])), ((w 1), .inl (k 0, 10, .inl (fun _ => 0))), ((w 2), .inl (k 0, 10, .inl (upd (fun _ => 0) i_1.toNatClampNeg 0)))] := hD
    rw [upd0] at hP hD
    obtain ⟨z_4, ez_4⟩ : ∃ y : Int32, y = i_1 + 1 := ⟨_, rfl⟩
    have tz_4 : z_4.toInt = i_1.toInt + 1 := by rw [ez_4]; exact ti_addc (by decide) (by omega) (by omega)
    refine lv_iinc (v := z_4) (lv' := [(1, .int z_4), (0, .ref (w 0))]) hx hb dX6_clear_78 hl (k := 0) rfl (ez_4.symm) (by decide) rfl (fun ls hl => ?_)
    refine lv_goto (tgt := 58) hx hb dX6_clear_81 (by decide) ?_
    exact ih (z_4) _ _ ls (by show (10 - z_4.toInt).toNat < (10 - i_1.toInt).toNat; omega) ⟨(show 0 ≤ z_4.toInt ∧ z_4.toInt ≤ 10 from ⟨by omega, by omega⟩), hP.sub [0, 1, 2] rfl, hD.sub [0, 1, 2] (by decide) rfl, hS, lv_sub hl [0, 1] rfl⟩
