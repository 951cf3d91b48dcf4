theorem dX6_isRoof_0 : decode cX6_isRoof 0 = .ok (.iload_n 1, 1) := by decide +kernel
theorem dX6_isRoof_1 : decode cX6_isRoof 1 = .ok (.ifCond .lt 15, 3) := by decide +kernel
theorem dX6_isRoof_16 : decode cX6_isRoof 16 = .ok (.iconst 0, 1) := by decide +kernel
theorem dX6_isRoof_17 : decode cX6_isRoof 17 = .ok (.ireturn, 1) := by decide +kernel
theorem dX6_isRoof_4 : decode cX6_isRoof 4 = .ok (.iload_n 1, 1) := by decide +kernel
theorem dX6_isRoof_5 : decode cX6_isRoof 5 = .ok (.aload_n 0, 1) := by decide +kernel
theorem dX6_isRoof_6 : decode cX6_isRoof 6 = .ok (.getfield 40, 3) := by decide +kernel
theorem mw_152 : Cond.fieldLink RX6 40 "ThatchNext$World" "roofs" "I" ∈ wsL_law := List.mem_of_getElem? (i := 152) (by decide +kernel)
theorem dX6_isRoof_9 : decode cX6_isRoof 9 = .ok (.if_icmp .ge 7, 3) := by decide +kernel
theorem dX6_isRoof_12 : decode cX6_isRoof 12 = .ok (.iconst 1, 1) := by decide +kernel
theorem dX6_isRoof_13 : decode cX6_isRoof 13 = .ok (.goto 4, 3) := by decide +kernel
theorem dX6_allRoofs_0 : decode cX6_allRoofs 0 = .ok (.iconst 1, 1) := by decide +kernel
theorem dX6_allRoofs_1 : decode cX6_allRoofs 1 = .ok (.aload_n 0, 1) := by decide +kernel
theorem dX6_allRoofs_2 : decode cX6_allRoofs 2 = .ok (.getfield 40, 3) := by decide +kernel
theorem dX6_allRoofs_5 : decode cX6_allRoofs 5 = .ok (.ishl, 1) := by decide +kernel
theorem dX6_allRoofs_6 : decode cX6_allRoofs 6 = .ok (.iconst 1, 1) := by decide +kernel
theorem dX6_allRoofs_7 : decode cX6_allRoofs 7 = .ok (.isub, 1) := by decide +kernel
theorem dX6_allRoofs_8 : decode cX6_allRoofs 8 = .ok (.ireturn, 1) := by decide +kernel
theorem dX6_thatched_0 : decode cX6_thatched 0 = .ok (.aload_n 0, 1) := by decide +kernel
theorem dX6_thatched_1 : decode cX6_thatched 1 = .ok (.invokevirtual 68, 3) := by decide +kernel
theorem hd_yX6_allRoofs : HD yX6_allRoofs RX6 0 := by decide +kernel
theorem mw_474 : Cond.methodLink RX6 68 yX6_allRoofs ∈ wsL_law := List.mem_of_getElem? (i := 474) (by decide +kernel)
theorem mw_475 : Cond.instanceMethod yX6_allRoofs ∈ wsL_law := List.mem_of_getElem? (i := 475) (by decide +kernel)
theorem mw_476 : Cond.selects RX6 yX6_allRoofs yX6_allRoofs ∈ wsL_law := List.mem_of_getElem? (i := 476) (by decide +kernel)
theorem mw_19 : Cond.initialized RX6 ∈ wsL_law := List.mem_of_getElem? (i := 19) (by decide +kernel)
theorem mw_477 : Cond.code yX6_allRoofs cX6_allRoofs 1 (some .int) ∈ wsL_law := List.mem_of_getElem? (i := 477) (by decide +kernel)
theorem dX6_thatched_4 : decode cX6_thatched 4 = .ok (.aload_n 0, 1) := by decide +kernel
theorem dX6_thatched_5 : decode cX6_thatched 5 = .ok (.getfield 50, 3) := by decide +kernel
theorem mw_155 : Cond.fieldLink RX6 50 "ThatchNext$World" "slates" "I" ∈ wsL_law := List.mem_of_getElem? (i := 155) (by decide +kernel)
theorem dX6_thatched_8 : decode cX6_thatched 8 = .ok (.iconst (-1), 1) := by decide +kernel
theorem dX6_thatched_9 : decode cX6_thatched 9 = .ok (.ixor, 1) := by decide +kernel
theorem dX6_thatched_10 : decode cX6_thatched 10 = .ok (.iand, 1) := by decide +kernel
theorem dX6_thatched_11 : decode cX6_thatched 11 = .ok (.ireturn, 1) := by decide +kernel
theorem dX6_giverOf_0 : decode cX6_giverOf 0 = .ok (.iload_n 1, 1) := by decide +kernel
theorem dX6_giverOf_1 : decode cX6_giverOf 1 = .ok (.ifCond .le 7, 3) := by decide +kernel
theorem dX6_giverOf_8 : decode cX6_giverOf 8 = .ok (.aload_n 0, 1) := by decide +kernel
theorem dX6_giverOf_9 : decode cX6_giverOf 9 = .ok (.getfield 46, 3) := by decide +kernel
theorem mw_154 : Cond.fieldLink RX6 46 "ThatchNext$World" "isRing" "Z" ∈ wsL_law := List.mem_of_getElem? (i := 154) (by decide +kernel)
theorem dX6_giverOf_12 : decode cX6_giverOf 12 = .ok (.ifCond .eq 20, 3) := by decide +kernel
theorem dX6_giverOf_32 : decode cX6_giverOf 32 = .ok (.iconst (-1), 1) := by decide +kernel
theorem dX6_giverOf_33 : decode cX6_giverOf 33 = .ok (.ireturn, 1) := by decide +kernel
theorem dX6_giverOf_15 : decode cX6_giverOf 15 = .ok (.aload_n 0, 1) := by decide +kernel
theorem dX6_giverOf_16 : decode cX6_giverOf 16 = .ok (.getfield 40, 3) := by decide +kernel
theorem dX6_giverOf_19 : decode cX6_giverOf 19 = .ok (.iconst 2, 1) := by decide +kernel
theorem dX6_giverOf_20 : decode cX6_giverOf 20 = .ok (.if_icmp .lt 12, 3) := by decide +kernel
theorem dX6_giverOf_23 : decode cX6_giverOf 23 = .ok (.aload_n 0, 1) := by decide +kernel
theorem dX6_giverOf_24 : decode cX6_giverOf 24 = .ok (.getfield 40, 3) := by decide +kernel
theorem dX6_giverOf_27 : decode cX6_giverOf 27 = .ok (.iconst 1, 1) := by decide +kernel
theorem dX6_giverOf_28 : decode cX6_giverOf 28 = .ok (.isub, 1) := by decide +kernel
theorem dX6_giverOf_29 : decode cX6_giverOf 29 = .ok (.goto 4, 3) := by decide +kernel
theorem dX6_giverOf_4 : decode cX6_giverOf 4 = .ok (.iload_n 1, 1) := by decide +kernel
theorem dX6_giverOf_5 : decode cX6_giverOf 5 = .ok (.iconst 1, 1) := by decide +kernel
theorem dX6_giverOf_6 : decode cX6_giverOf 6 = .ok (.isub, 1) := by decide +kernel
theorem dX6_giverOf_7 : decode cX6_giverOf 7 = .ok (.ireturn, 1) := by decide +kernel
theorem dX6_takerOf_0 : decode cX6_takerOf 0 = .ok (.iload_n 1, 1) := by decide +kernel
theorem dX6_takerOf_1 : decode cX6_takerOf 1 = .ok (.iconst 1, 1) := by decide +kernel
theorem dX6_takerOf_2 : decode cX6_takerOf 2 = .ok (.iadd, 1) := by decide +kernel
theorem dX6_takerOf_3 : decode cX6_takerOf 3 = .ok (.aload_n 0, 1) := by decide +kernel
theorem dX6_takerOf_4 : decode cX6_takerOf 4 = .ok (.getfield 40, 3) := by decide +kernel
theorem dX6_takerOf_7 : decode cX6_takerOf 7 = .ok (.if_icmp .ge 7, 3) := by decide +kernel
theorem dX6_takerOf_14 : decode cX6_takerOf 14 = .ok (.aload_n 0, 1) := by decide +kernel
theorem dX6_takerOf_15 : decode cX6_takerOf 15 = .ok (.getfield 46, 3) := by decide +kernel
theorem dX6_takerOf_18 : decode cX6_takerOf 18 = .ok (.ifCond .eq 15, 3) := by decide +kernel
theorem dX6_takerOf_33 : decode cX6_takerOf 33 = .ok (.iconst (-1), 1) := by decide +kernel
theorem dX6_takerOf_34 : decode cX6_takerOf 34 = .ok (.ireturn, 1) := by decide +kernel
theorem dX6_takerOf_21 : decode cX6_takerOf 21 = .ok (.aload_n 0, 1) := by decide +kernel
theorem dX6_takerOf_22 : decode cX6_takerOf 22 = .ok (.getfield 40, 3) := by decide +kernel
theorem dX6_takerOf_25 : decode cX6_takerOf 25 = .ok (.iconst 2, 1) := by decide +kernel
theorem dX6_takerOf_26 : decode cX6_takerOf 26 = .ok (.if_icmp .lt 7, 3) := by decide +kernel
theorem dX6_takerOf_29 : decode cX6_takerOf 29 = .ok (.iconst 0, 1) := by decide +kernel
theorem dX6_takerOf_30 : decode cX6_takerOf 30 = .ok (.goto 4, 3) := by decide +kernel
theorem dX6_takerOf_10 : decode cX6_takerOf 10 = .ok (.iload_n 1, 1) := by decide +kernel
theorem dX6_takerOf_11 : decode cX6_takerOf 11 = .ok (.iconst 1, 1) := by decide +kernel
theorem dX6_takerOf_12 : decode cX6_takerOf 12 = .ok (.iadd, 1) := by decide +kernel
theorem dX6_takerOf_13 : decode cX6_takerOf 13 = .ok (.ireturn, 1) := by decide +kernel
theorem dX6_layerAt_0 : decode cX6_layerAt 0 = .ok (.aload_n 0, 1) := by decide +kernel
theorem dX6_layerAt_1 : decode cX6_layerAt 1 = .ok (.getfield 31, 3) := by decide +kernel
theorem mw_60 : Cond.fieldLink RX6 31 "ThatchNext$World" "layers" "[I" ∈ wsL_law := List.mem_of_getElem? (i := 60) (by decide +kernel)
theorem dX6_layerAt_4 : decode cX6_layerAt 4 = .ok (.iload_n 1, 1) := by decide +kernel
theorem dX6_layerAt_5 : decode cX6_layerAt 5 = .ok (.bipush 6, 2) := by decide +kernel
theorem dX6_layerAt_7 : decode cX6_layerAt 7 = .ok (.imul, 1) := by decide +kernel
theorem dX6_layerAt_8 : decode cX6_layerAt 8 = .ok (.iload_n 2, 1) := by decide +kernel
theorem dX6_layerAt_9 : decode cX6_layerAt 9 = .ok (.iadd, 1) := by decide +kernel
theorem dX6_layerAt_10 : decode cX6_layerAt 10 = .ok (.iaload, 1) := by decide +kernel
theorem dX6_layerAt_11 : decode cX6_layerAt 11 = .ok (.ireturn, 1) := by decide +kernel
theorem dX6_isSound_0 : decode cX6_isSound 0 = .ok (.iload_n 1, 1) := by decide +kernel
theorem dX6_isSound_1 : decode cX6_isSound 1 = .ok (.invokestatic 82, 3) := by decide +kernel
theorem mw_391 : Cond.methodLink RX6 82 yX1_sortOf ∈ wsL_law := List.mem_of_getElem? (i := 391) (by decide +kernel)
theorem dX6_isSound_4 : decode cX6_isSound 4 = .ok (.iconst 1, 1) := by decide +kernel
theorem dX6_isSound_5 : decode cX6_isSound 5 = .ok (.if_icmp .ne 10, 3) := by decide +kernel
theorem dX6_isSound_15 : decode cX6_isSound 15 = .ok (.aload_n 0, 1) := by decide +kernel
theorem dX6_isSound_16 : decode cX6_isSound 16 = .ok (.getfield 15, 3) := by decide +kernel
theorem mw_55 : Cond.fieldLink RX6 15 "ThatchNext$World" "reedYears" "I" ∈ wsL_law := List.mem_of_getElem? (i := 55) (by decide +kernel)
theorem dX6_isSound_19 : decode cX6_isSound 19 = .ok (.istore_n 2, 1) := by decide +kernel
theorem dX6_isSound_20 : decode cX6_isSound 20 = .ok (.iload_n 1, 1) := by decide +kernel
theorem dX6_isSound_21 : decode cX6_isSound 21 = .ok (.invokestatic 86, 3) := by decide +kernel
theorem mw_394 : Cond.methodLink RX6 86 yX1_ageOf ∈ wsL_law := List.mem_of_getElem? (i := 394) (by decide +kernel)
theorem dX6_isSound_24 : decode cX6_isSound 24 = .ok (.iload_n 2, 1) := by decide +kernel
theorem dX6_isSound_25 : decode cX6_isSound 25 = .ok (.if_icmp .gt 7, 3) := by decide +kernel
theorem dX6_isSound_32 : decode cX6_isSound 32 = .ok (.iconst 0, 1) := by decide +kernel
theorem dX6_isSound_33 : decode cX6_isSound 33 = .ok (.ireturn, 1) := by decide +kernel
theorem dX6_isSound_28 : decode cX6_isSound 28 = .ok (.iconst 1, 1) := by decide +kernel
theorem dX6_isSound_29 : decode cX6_isSound 29 = .ok (.goto 4, 3) := by decide +kernel
theorem dX6_isSound_8 : decode cX6_isSound 8 = .ok (.aload_n 0, 1) := by decide +kernel
theorem dX6_isSound_9 : decode cX6_isSound 9 = .ok (.getfield 18, 3) := by decide +kernel
theorem mw_56 : Cond.fieldLink RX6 18 "ThatchNext$World" "strawYears" "I" ∈ wsL_law := List.mem_of_getElem? (i := 56) (by decide +kernel)
theorem dX6_isSound_12 : decode cX6_isSound 12 = .ok (.goto 7, 3) := by decide +kernel
theorem dX6_soundIn_0 : decode cX6_soundIn 0 = .ok (.iconst 0, 1) := by decide +kernel
theorem dX6_soundIn_1 : decode cX6_soundIn 1 = .ok (.istore_n 2, 1) := by decide +kernel
theorem dX6_soundIn_2 : decode cX6_soundIn 2 = .ok (.iconst 0, 1) := by decide +kernel
theorem dX6_soundIn_3 : decode cX6_soundIn 3 = .ok (.istore_n 3, 1) := by decide +kernel
theorem dX6_soundIn_4 : decode cX6_soundIn 4 = .ok (.iload_n 3, 1) := by decide +kernel
theorem dX6_soundIn_5 : decode cX6_soundIn 5 = .ok (.aload_n 0, 1) := by decide +kernel
theorem dX6_soundIn_6 : decode cX6_soundIn 6 = .ok (.getfield 24, 3) := by decide +kernel
theorem mw_58 : Cond.fieldLink RX6 24 "ThatchNext$World" "depths" "[I" ∈ wsL_law := List.mem_of_getElem? (i := 58) (by decide +kernel)
theorem dX6_soundIn_9 : decode cX6_soundIn 9 = .ok (.iload_n 1, 1) := by decide +kernel
theorem dX6_soundIn_10 : decode cX6_soundIn 10 = .ok (.iaload, 1) := by decide +kernel
theorem dX6_soundIn_11 : decode cX6_soundIn 11 = .ok (.if_icmp .ge 30, 3) := by decide +kernel
theorem dX6_soundIn_41 : decode cX6_soundIn 41 = .ok (.iload_n 2, 1) := by decide +kernel
theorem dX6_soundIn_42 : decode cX6_soundIn 42 = .ok (.ireturn, 1) := by decide +kernel
theorem dX6_soundIn_14 : decode cX6_soundIn 14 = .ok (.iload_n 2, 1) := by decide +kernel
theorem dX6_soundIn_15 : decode cX6_soundIn 15 = .ok (.aload_n 0, 1) := by decide +kernel
theorem dX6_soundIn_16 : decode cX6_soundIn 16 = .ok (.aload_n 0, 1) := by decide +kernel
theorem dX6_soundIn_17 : decode cX6_soundIn 17 = .ok (.iload_n 1, 1) := by decide +kernel
theorem dX6_soundIn_18 : decode cX6_soundIn 18 = .ok (.iload_n 3, 1) := by decide +kernel
theorem dX6_soundIn_19 : decode cX6_soundIn 19 = .ok (.invokevirtual 89, 3) := by decide +kernel
theorem hd_yX6_layerAt : HD yX6_layerAt RX6 2 := by decide +kernel
theorem mw_383 : Cond.methodLink RX6 89 yX6_layerAt ∈ wsL_law := List.mem_of_getElem? (i := 383) (by decide +kernel)
theorem mw_384 : Cond.instanceMethod yX6_layerAt ∈ wsL_law := List.mem_of_getElem? (i := 384) (by decide +kernel)
theorem mw_385 : Cond.selects RX6 yX6_layerAt yX6_layerAt ∈ wsL_law := List.mem_of_getElem? (i := 385) (by decide +kernel)
theorem mw_386 : Cond.code yX6_layerAt cX6_layerAt 3 (some .int) ∈ wsL_law := List.mem_of_getElem? (i := 386) (by decide +kernel)
theorem dX6_soundIn_22 : decode cX6_soundIn 22 = .ok (.invokevirtual 93, 3) := by decide +kernel
theorem hd_yX6_isSound : HD yX6_isSound RX6 1 := by decide +kernel
theorem mw_387 : Cond.methodLink RX6 93 yX6_isSound ∈ wsL_law := List.mem_of_getElem? (i := 387) (by decide +kernel)
theorem mw_388 : Cond.instanceMethod yX6_isSound ∈ wsL_law := List.mem_of_getElem? (i := 388) (by decide +kernel)
theorem mw_389 : Cond.selects RX6 yX6_isSound yX6_isSound ∈ wsL_law := List.mem_of_getElem? (i := 389) (by decide +kernel)
theorem mw_390 : Cond.code yX6_isSound cX6_isSound 3 (some .boolean) ∈ wsL_law := List.mem_of_getElem? (i := 390) (by decide +kernel)
theorem dX6_soundIn_25 : decode cX6_soundIn 25 = .ok (.ifCond .eq 7, 3) := by decide +kernel
theorem dX6_soundIn_32 : decode cX6_soundIn 32 = .ok (.iconst 0, 1) := by decide +kernel
theorem dX6_soundIn_33 : decode cX6_soundIn 33 = .ok (.iadd, 1) := by decide +kernel
theorem dX6_soundIn_34 : decode cX6_soundIn 34 = .ok (.istore_n 2, 1) := by decide +kernel
theorem dX6_soundIn_35 : decode cX6_soundIn 35 = .ok (.iinc 3 1, 3) := by decide +kernel
theorem dX6_soundIn_38 : decode cX6_soundIn 38 = .ok (.goto (-34), 3) := by decide +kernel
theorem dX6_soundIn_28 : decode cX6_soundIn 28 = .ok (.iconst 1, 1) := by decide +kernel
theorem dX6_soundIn_29 : decode cX6_soundIn 29 = .ok (.goto 4, 3) := by decide +kernel
theorem dX6_miceOn_0 : decode cX6_miceOn 0 = .ok (.iconst 0, 1) := by decide +kernel
theorem dX6_miceOn_1 : decode cX6_miceOn 1 = .ok (.istore_n 2, 1) := by decide +kernel
theorem dX6_miceOn_2 : decode cX6_miceOn 2 = .ok (.iconst 0, 1) := by decide +kernel
theorem dX6_miceOn_3 : decode cX6_miceOn 3 = .ok (.istore_n 3, 1) := by decide +kernel
theorem dX6_miceOn_4 : decode cX6_miceOn 4 = .ok (.iload_n 3, 1) := by decide +kernel
theorem dX6_miceOn_5 : decode cX6_miceOn 5 = .ok (.aload_n 0, 1) := by decide +kernel
theorem dX6_miceOn_6 : decode cX6_miceOn 6 = .ok (.getfield 24, 3) := by decide +kernel
theorem dX6_miceOn_9 : decode cX6_miceOn 9 = .ok (.iload_n 1, 1) := by decide +kernel
theorem dX6_miceOn_10 : decode cX6_miceOn 10 = .ok (.iaload, 1) := by decide +kernel
theorem dX6_miceOn_11 : decode cX6_miceOn 11 = .ok (.if_icmp .ge 21, 3) := by decide +kernel
theorem dX6_miceOn_32 : decode cX6_miceOn 32 = .ok (.iload_n 2, 1) := by decide +kernel
theorem dX6_miceOn_33 : decode cX6_miceOn 33 = .ok (.ireturn, 1) := by decide +kernel
theorem dX6_miceOn_14 : decode cX6_miceOn 14 = .ok (.iload_n 2, 1) := by decide +kernel
theorem dX6_miceOn_15 : decode cX6_miceOn 15 = .ok (.aload_n 0, 1) := by decide +kernel
theorem dX6_miceOn_16 : decode cX6_miceOn 16 = .ok (.iload_n 1, 1) := by decide +kernel
theorem dX6_miceOn_17 : decode cX6_miceOn 17 = .ok (.iload_n 3, 1) := by decide +kernel
theorem dX6_miceOn_18 : decode cX6_miceOn 18 = .ok (.invokevirtual 89, 3) := by decide +kernel
theorem dX6_miceOn_21 : decode cX6_miceOn 21 = .ok (.invokestatic 103, 3) := by decide +kernel
theorem mw_402 : Cond.methodLink RX6 103 yX1_miceOf ∈ wsL_law := List.mem_of_getElem? (i := 402) (by decide +kernel)
theorem dX6_miceOn_24 : decode cX6_miceOn 24 = .ok (.iadd, 1) := by decide +kernel
theorem dX6_miceOn_25 : decode cX6_miceOn 25 = .ok (.istore_n 2, 1) := by decide +kernel
theorem dX6_miceOn_26 : decode cX6_miceOn 26 = .ok (.iinc 3 1, 3) := by decide +kernel
theorem dX6_miceOn_29 : decode cX6_miceOn 29 = .ok (.goto (-25), 3) := by decide +kernel
theorem dX6_sparksOn_0 : decode cX6_sparksOn 0 = .ok (.iconst 0, 1) := by decide +kernel
theorem dX6_sparksOn_1 : decode cX6_sparksOn 1 = .ok (.istore_n 2, 1) := by decide +kernel
theorem dX6_sparksOn_2 : decode cX6_sparksOn 2 = .ok (.iconst 0, 1) := by decide +kernel
theorem dX6_sparksOn_3 : decode cX6_sparksOn 3 = .ok (.istore_n 3, 1) := by decide +kernel
theorem dX6_sparksOn_4 : decode cX6_sparksOn 4 = .ok (.iload_n 3, 1) := by decide +kernel
theorem dX6_sparksOn_5 : decode cX6_sparksOn 5 = .ok (.aload_n 0, 1) := by decide +kernel
theorem dX6_sparksOn_6 : decode cX6_sparksOn 6 = .ok (.getfield 24, 3) := by decide +kernel
theorem dX6_sparksOn_9 : decode cX6_sparksOn 9 = .ok (.iload_n 1, 1) := by decide +kernel
theorem dX6_sparksOn_10 : decode cX6_sparksOn 10 = .ok (.iaload, 1) := by decide +kernel
theorem dX6_sparksOn_11 : decode cX6_sparksOn 11 = .ok (.if_icmp .ge 29, 3) := by decide +kernel
theorem dX6_sparksOn_40 : decode cX6_sparksOn 40 = .ok (.iload_n 2, 1) := by decide +kernel
theorem dX6_sparksOn_41 : decode cX6_sparksOn 41 = .ok (.ireturn, 1) := by decide +kernel
theorem dX6_sparksOn_14 : decode cX6_sparksOn 14 = .ok (.iload_n 2, 1) := by decide +kernel
theorem dX6_sparksOn_15 : decode cX6_sparksOn 15 = .ok (.aload_n 0, 1) := by decide +kernel
theorem dX6_sparksOn_16 : decode cX6_sparksOn 16 = .ok (.iload_n 1, 1) := by decide +kernel
theorem dX6_sparksOn_17 : decode cX6_sparksOn 17 = .ok (.iload_n 3, 1) := by decide +kernel
theorem dX6_sparksOn_18 : decode cX6_sparksOn 18 = .ok (.invokevirtual 89, 3) := by decide +kernel
theorem dX6_sparksOn_21 : decode cX6_sparksOn 21 = .ok (.invokestatic 109, 3) := by decide +kernel
theorem hd_yX1_hasSpark : HD yX1_hasSpark RX1 1 := by decide +kernel
theorem mw_698 : Cond.methodLink RX6 109 yX1_hasSpark ∈ wsL_law := List.mem_of_getElem? (i := 698) (by decide +kernel)
theorem mw_449 : Cond.static yX1_hasSpark ∈ wsL_law := List.mem_of_getElem? (i := 449) (by decide +kernel)
theorem mw_450 : Cond.code yX1_hasSpark cX1_hasSpark 1 (some .boolean) ∈ wsL_law := List.mem_of_getElem? (i := 450) (by decide +kernel)
theorem dX6_sparksOn_24 : decode cX6_sparksOn 24 = .ok (.ifCond .eq 7, 3) := by decide +kernel
theorem dX6_sparksOn_31 : decode cX6_sparksOn 31 = .ok (.iconst 0, 1) := by decide +kernel
theorem dX6_sparksOn_32 : decode cX6_sparksOn 32 = .ok (.iadd, 1) := by decide +kernel
theorem dX6_sparksOn_33 : decode cX6_sparksOn 33 = .ok (.istore_n 2, 1) := by decide +kernel
theorem dX6_sparksOn_34 : decode cX6_sparksOn 34 = .ok (.iinc 3 1, 3) := by decide +kernel
theorem dX6_sparksOn_37 : decode cX6_sparksOn 37 = .ok (.goto (-33), 3) := by decide +kernel
theorem dX6_sparksOn_27 : decode cX6_sparksOn 27 = .ok (.iconst 1, 1) := by decide +kernel
theorem dX6_sparksOn_28 : decode cX6_sparksOn 28 = .ok (.goto 4, 3) := by decide +kernel
theorem dX6_miceInAll_0 : decode cX6_miceInAll 0 = .ok (.iconst 0, 1) := by decide +kernel
theorem dX6_miceInAll_1 : decode cX6_miceInAll 1 = .ok (.istore_n 1, 1) := by decide +kernel
theorem dX6_miceInAll_2 : decode cX6_miceInAll 2 = .ok (.iconst 0, 1) := by decide +kernel
theorem dX6_miceInAll_3 : decode cX6_miceInAll 3 = .ok (.istore_n 2, 1) := by decide +kernel
theorem dX6_miceInAll_4 : decode cX6_miceInAll 4 = .ok (.iload_n 2, 1) := by decide +kernel
theorem dX6_miceInAll_5 : decode cX6_miceInAll 5 = .ok (.aload_n 0, 1) := by decide +kernel
theorem dX6_miceInAll_6 : decode cX6_miceInAll 6 = .ok (.getfield 40, 3) := by decide +kernel
theorem dX6_miceInAll_9 : decode cX6_miceInAll 9 = .ok (.if_icmp .ge 17, 3) := by decide +kernel
theorem dX6_miceInAll_26 : decode cX6_miceInAll 26 = .ok (.iload_n 1, 1) := by decide +kernel
theorem dX6_miceInAll_27 : decode cX6_miceInAll 27 = .ok (.ireturn, 1) := by decide +kernel
theorem dX6_miceInAll_12 : decode cX6_miceInAll 12 = .ok (.iload_n 1, 1) := by decide +kernel
theorem dX6_miceInAll_13 : decode cX6_miceInAll 13 = .ok (.aload_n 0, 1) := by decide +kernel
theorem dX6_miceInAll_14 : decode cX6_miceInAll 14 = .ok (.iload_n 2, 1) := by decide +kernel
theorem dX6_miceInAll_15 : decode cX6_miceInAll 15 = .ok (.invokevirtual 106, 3) := by decide +kernel
theorem hd_yX6_miceOn : HD yX6_miceOn RX6 1 := by decide +kernel
theorem mw_838 : Cond.methodLink RX6 106 yX6_miceOn ∈ wsL_law := List.mem_of_getElem? (i := 838) (by decide +kernel)
theorem mw_399 : Cond.instanceMethod yX6_miceOn ∈ wsL_law := List.mem_of_getElem? (i := 399) (by decide +kernel)
theorem mw_400 : Cond.selects RX6 yX6_miceOn yX6_miceOn ∈ wsL_law := List.mem_of_getElem? (i := 400) (by decide +kernel)
theorem mw_401 : Cond.code yX6_miceOn cX6_miceOn 4 (some .int) ∈ wsL_law := List.mem_of_getElem? (i := 401) (by decide +kernel)
theorem dX6_miceInAll_18 : decode cX6_miceInAll 18 = .ok (.iadd, 1) := by decide +kernel
theorem dX6_miceInAll_19 : decode cX6_miceInAll 19 = .ok (.istore_n 1, 1) := by decide +kernel
theorem dX6_miceInAll_20 : decode cX6_miceInAll 20 = .ok (.iinc 2 1, 3) := by decide +kernel
theorem dX6_miceInAll_23 : decode cX6_miceInAll 23 = .ok (.goto (-19), 3) := by decide +kernel
theorem dX6_sparksInAll_0 : decode cX6_sparksInAll 0 = .ok (.iconst 0, 1) := by decide +kernel
theorem dX6_sparksInAll_1 : decode cX6_sparksInAll 1 = .ok (.istore_n 1, 1) := by decide +kernel
theorem dX6_sparksInAll_2 : decode cX6_sparksInAll 2 = .ok (.iconst 0, 1) := by decide +kernel
theorem dX6_sparksInAll_3 : decode cX6_sparksInAll 3 = .ok (.istore_n 2, 1) := by decide +kernel
theorem dX6_sparksInAll_4 : decode cX6_sparksInAll 4 = .ok (.iload_n 2, 1) := by decide +kernel
theorem dX6_sparksInAll_5 : decode cX6_sparksInAll 5 = .ok (.aload_n 0, 1) := by decide +kernel
theorem dX6_sparksInAll_6 : decode cX6_sparksInAll 6 = .ok (.getfield 40, 3) := by decide +kernel
theorem dX6_sparksInAll_9 : decode cX6_sparksInAll 9 = .ok (.if_icmp .ge 17, 3) := by decide +kernel
theorem dX6_sparksInAll_26 : decode cX6_sparksInAll 26 = .ok (.iload_n 1, 1) := by decide +kernel
theorem dX6_sparksInAll_27 : decode cX6_sparksInAll 27 = .ok (.ireturn, 1) := by decide +kernel
theorem dX6_sparksInAll_12 : decode cX6_sparksInAll 12 = .ok (.iload_n 1, 1) := by decide +kernel
theorem dX6_sparksInAll_13 : decode cX6_sparksInAll 13 = .ok (.aload_n 0, 1) := by decide +kernel
theorem dX6_sparksInAll_14 : decode cX6_sparksInAll 14 = .ok (.iload_n 2, 1) := by decide +kernel
theorem dX6_sparksInAll_15 : decode cX6_sparksInAll 15 = .ok (.invokevirtual 112, 3) := by decide +kernel
theorem hd_yX6_sparksOn : HD yX6_sparksOn RX6 1 := by decide +kernel
theorem mw_890 : Cond.methodLink RX6 112 yX6_sparksOn ∈ wsL_law := List.mem_of_getElem? (i := 890) (by decide +kernel)
theorem mw_695 : Cond.instanceMethod yX6_sparksOn ∈ wsL_law := List.mem_of_getElem? (i := 695) (by decide +kernel)
theorem mw_696 : Cond.selects RX6 yX6_sparksOn yX6_sparksOn ∈ wsL_law := List.mem_of_getElem? (i := 696) (by decide +kernel)
theorem mw_697 : Cond.code yX6_sparksOn cX6_sparksOn 4 (some .int) ∈ wsL_law := List.mem_of_getElem? (i := 697) (by decide +kernel)
theorem dX6_sparksInAll_18 : decode cX6_sparksInAll 18 = .ok (.iadd, 1) := by decide +kernel
theorem dX6_sparksInAll_19 : decode cX6_sparksInAll 19 = .ok (.istore_n 1, 1) := by decide +kernel
theorem dX6_sparksInAll_20 : decode cX6_sparksInAll 20 = .ok (.iinc 2 1, 3) := by decide +kernel
theorem dX6_sparksInAll_23 : decode cX6_sparksInAll 23 = .ok (.goto (-19), 3) := by decide +kernel
theorem dX6_layersInAll_0 : decode cX6_layersInAll 0 = .ok (.iconst 0, 1) := by decide +kernel
theorem dX6_layersInAll_1 : decode cX6_layersInAll 1 = .ok (.istore_n 1, 1) := by decide +kernel
theorem dX6_layersInAll_2 : decode cX6_layersInAll 2 = .ok (.iconst 0, 1) := by decide +kernel
theorem dX6_layersInAll_3 : decode cX6_layersInAll 3 = .ok (.istore_n 2, 1) := by decide +kernel
theorem dX6_layersInAll_4 : decode cX6_layersInAll 4 = .ok (.iload_n 2, 1) := by decide +kernel
theorem dX6_layersInAll_5 : decode cX6_layersInAll 5 = .ok (.aload_n 0, 1) := by decide +kernel
theorem dX6_layersInAll_6 : decode cX6_layersInAll 6 = .ok (.getfield 40, 3) := by decide +kernel
theorem dX6_layersInAll_9 : decode cX6_layersInAll 9 = .ok (.if_icmp .ge 18, 3) := by decide +kernel
theorem dX6_layersInAll_27 : decode cX6_layersInAll 27 = .ok (.iload_n 1, 1) := by decide +kernel
theorem dX6_layersInAll_28 : decode cX6_layersInAll 28 = .ok (.ireturn, 1) := by decide +kernel
theorem dX6_layersInAll_12 : decode cX6_layersInAll 12 = .ok (.iload_n 1, 1) := by decide +kernel
theorem dX6_layersInAll_13 : decode cX6_layersInAll 13 = .ok (.aload_n 0, 1) := by decide +kernel
theorem dX6_layersInAll_14 : decode cX6_layersInAll 14 = .ok (.getfield 24, 3) := by decide +kernel
theorem dX6_layersInAll_17 : decode cX6_layersInAll 17 = .ok (.iload_n 2, 1) := by decide +kernel
theorem dX6_layersInAll_18 : decode cX6_layersInAll 18 = .ok (.iaload, 1) := by decide +kernel
theorem dX6_layersInAll_19 : decode cX6_layersInAll 19 = .ok (.iadd, 1) := by decide +kernel
theorem dX6_layersInAll_20 : decode cX6_layersInAll 20 = .ok (.istore_n 1, 1) := by decide +kernel
theorem dX6_layersInAll_21 : decode cX6_layersInAll 21 = .ok (.iinc 2 1, 3) := by decide +kernel
theorem dX6_layersInAll_24 : decode cX6_layersInAll 24 = .ok (.goto (-20), 3) := by decide +kernel
theorem dX6_laidInAll_0 : decode cX6_laidInAll 0 = .ok (.iconst 0, 1) := by decide +kernel
theorem dX6_laidInAll_1 : decode cX6_laidInAll 1 = .ok (.istore_n 1, 1) := by decide +kernel
theorem dX6_laidInAll_2 : decode cX6_laidInAll 2 = .ok (.iconst 0, 1) := by decide +kernel
theorem dX6_laidInAll_3 : decode cX6_laidInAll 3 = .ok (.istore_n 2, 1) := by decide +kernel
theorem dX6_laidInAll_4 : decode cX6_laidInAll 4 = .ok (.iload_n 2, 1) := by decide +kernel
theorem dX6_laidInAll_5 : decode cX6_laidInAll 5 = .ok (.aload_n 0, 1) := by decide +kernel
theorem dX6_laidInAll_6 : decode cX6_laidInAll 6 = .ok (.getfield 40, 3) := by decide +kernel
theorem dX6_laidInAll_9 : decode cX6_laidInAll 9 = .ok (.if_icmp .ge 18, 3) := by decide +kernel
theorem dX6_laidInAll_27 : decode cX6_laidInAll 27 = .ok (.iload_n 1, 1) := by decide +kernel
theorem dX6_laidInAll_28 : decode cX6_laidInAll 28 = .ok (.ireturn, 1) := by decide +kernel
theorem dX6_laidInAll_12 : decode cX6_laidInAll 12 = .ok (.iload_n 1, 1) := by decide +kernel
theorem dX6_laidInAll_13 : decode cX6_laidInAll 13 = .ok (.aload_n 0, 1) := by decide +kernel
theorem dX6_laidInAll_14 : decode cX6_laidInAll 14 = .ok (.getfield 28, 3) := by decide +kernel
theorem mw_59 : Cond.fieldLink RX6 28 "ThatchNext$World" "laid" "[I" ∈ wsL_law := List.mem_of_getElem? (i := 59) (by decide +kernel)
theorem dX6_laidInAll_17 : decode cX6_laidInAll 17 = .ok (.iload_n 2, 1) := by decide +kernel
theorem dX6_laidInAll_18 : decode cX6_laidInAll 18 = .ok (.iaload, 1) := by decide +kernel
theorem dX6_laidInAll_19 : decode cX6_laidInAll 19 = .ok (.iadd, 1) := by decide +kernel
theorem dX6_laidInAll_20 : decode cX6_laidInAll 20 = .ok (.istore_n 1, 1) := by decide +kernel
theorem dX6_laidInAll_21 : decode cX6_laidInAll 21 = .ok (.iinc 2 1, 3) := by decide +kernel
theorem dX6_laidInAll_24 : decode cX6_laidInAll 24 = .ok (.goto (-20), 3) := by decide +kernel
theorem dX6_wetInAll_0 : decode cX6_wetInAll 0 = .ok (.iconst 0, 1) := by decide +kernel
theorem dX6_wetInAll_1 : decode cX6_wetInAll 1 = .ok (.istore_n 1, 1) := by decide +kernel
theorem dX6_wetInAll_2 : decode cX6_wetInAll 2 = .ok (.iconst 0, 1) := by decide +kernel
theorem dX6_wetInAll_3 : decode cX6_wetInAll 3 = .ok (.istore_n 2, 1) := by decide +kernel
theorem dX6_wetInAll_4 : decode cX6_wetInAll 4 = .ok (.iload_n 2, 1) := by decide +kernel
theorem dX6_wetInAll_5 : decode cX6_wetInAll 5 = .ok (.aload_n 0, 1) := by decide +kernel
theorem dX6_wetInAll_6 : decode cX6_wetInAll 6 = .ok (.getfield 40, 3) := by decide +kernel
theorem dX6_wetInAll_9 : decode cX6_wetInAll 9 = .ok (.if_icmp .ge 47, 3) := by decide +kernel
theorem dX6_wetInAll_56 : decode cX6_wetInAll 56 = .ok (.iload_n 1, 1) := by decide +kernel
theorem dX6_wetInAll_57 : decode cX6_wetInAll 57 = .ok (.ireturn, 1) := by decide +kernel
theorem dX6_wetInAll_12 : decode cX6_wetInAll 12 = .ok (.iconst 0, 1) := by decide +kernel
theorem dX6_wetInAll_13 : decode cX6_wetInAll 13 = .ok (.istore_n 3, 1) := by decide +kernel
theorem dX6_wetInAll_14 : decode cX6_wetInAll 14 = .ok (.iload_n 3, 1) := by decide +kernel
theorem dX6_wetInAll_15 : decode cX6_wetInAll 15 = .ok (.aload_n 0, 1) := by decide +kernel
theorem dX6_wetInAll_16 : decode cX6_wetInAll 16 = .ok (.getfield 24, 3) := by decide +kernel
theorem dX6_wetInAll_19 : decode cX6_wetInAll 19 = .ok (.iload_n 2, 1) := by decide +kernel
theorem dX6_wetInAll_20 : decode cX6_wetInAll 20 = .ok (.iaload, 1) := by decide +kernel
theorem dX6_wetInAll_21 : decode cX6_wetInAll 21 = .ok (.if_icmp .ge 29, 3) := by decide +kernel
theorem dX6_wetInAll_50 : decode cX6_wetInAll 50 = .ok (.iinc 2 1, 3) := by decide +kernel
theorem dX6_wetInAll_53 : decode cX6_wetInAll 53 = .ok (.goto (-49), 3) := by decide +kernel
theorem dX6_wetInAll_24 : decode cX6_wetInAll 24 = .ok (.iload_n 1, 1) := by decide +kernel
theorem dX6_wetInAll_25 : decode cX6_wetInAll 25 = .ok (.aload_n 0, 1) := by decide +kernel
theorem dX6_wetInAll_26 : decode cX6_wetInAll 26 = .ok (.iload_n 2, 1) := by decide +kernel
theorem dX6_wetInAll_27 : decode cX6_wetInAll 27 = .ok (.iload_n 3, 1) := by decide +kernel
theorem dX6_wetInAll_28 : decode cX6_wetInAll 28 = .ok (.invokevirtual 89, 3) := by decide +kernel
theorem dX6_wetInAll_31 : decode cX6_wetInAll 31 = .ok (.invokestatic 115, 3) := by decide +kernel
theorem mw_556 : Cond.methodLink RX6 115 yX1_isWet ∈ wsL_law := List.mem_of_getElem? (i := 556) (by decide +kernel)
theorem dX6_wetInAll_34 : decode cX6_wetInAll 34 = .ok (.ifCond .eq 7, 3) := by decide +kernel
theorem dX6_wetInAll_41 : decode cX6_wetInAll 41 = .ok (.iconst 0, 1) := by decide +kernel
theorem dX6_wetInAll_42 : decode cX6_wetInAll 42 = .ok (.iadd, 1) := by decide +kernel
theorem dX6_wetInAll_43 : decode cX6_wetInAll 43 = .ok (.istore_n 1, 1) := by decide +kernel
theorem dX6_wetInAll_44 : decode cX6_wetInAll 44 = .ok (.iinc 3 1, 3) := by decide +kernel
theorem dX6_wetInAll_47 : decode cX6_wetInAll 47 = .ok (.goto (-33), 3) := by decide +kernel
theorem dX6_wetInAll_37 : decode cX6_wetInAll 37 = .ok (.iconst 1, 1) := by decide +kernel
theorem dX6_wetInAll_38 : decode cX6_wetInAll 38 = .ok (.goto 4, 3) := by decide +kernel
theorem dX6_roofsWithLayersFrom_0 : decode cX6_roofsWithLayersFrom 0 = .ok (.iconst 0, 1) := by decide +kernel
theorem dX6_roofsWithLayersFrom_1 : decode cX6_roofsWithLayersFrom 1 = .ok (.istore_n 2, 1) := by decide +kernel
theorem dX6_roofsWithLayersFrom_2 : decode cX6_roofsWithLayersFrom 2 = .ok (.iconst 0, 1) := by decide +kernel
theorem dX6_roofsWithLayersFrom_3 : decode cX6_roofsWithLayersFrom 3 = .ok (.istore_n 3, 1) := by decide +kernel
theorem dX6_roofsWithLayersFrom_4 : decode cX6_roofsWithLayersFrom 4 = .ok (.iload_n 3, 1) := by decide +kernel
theorem dX6_roofsWithLayersFrom_5 : decode cX6_roofsWithLayersFrom 5 = .ok (.aload_n 0, 1) := by decide +kernel
theorem dX6_roofsWithLayersFrom_6 : decode cX6_roofsWithLayersFrom 6 = .ok (.getfield 40, 3) := by decide +kernel
theorem dX6_roofsWithLayersFrom_9 : decode cX6_roofsWithLayersFrom 9 = .ok (.if_icmp .ge 53, 3) := by decide +kernel
theorem dX6_roofsWithLayersFrom_62 : decode cX6_roofsWithLayersFrom 62 = .ok (.iload_n 2, 1) := by decide +kernel
theorem dX6_roofsWithLayersFrom_63 : decode cX6_roofsWithLayersFrom 63 = .ok (.ireturn, 1) := by decide +kernel
theorem dX6_roofsWithLayersFrom_12 : decode cX6_roofsWithLayersFrom 12 = .ok (.iconst 0, 1) := by decide +kernel
theorem dX6_roofsWithLayersFrom_13 : decode cX6_roofsWithLayersFrom 13 = .ok (.istore 4, 2) := by decide +kernel
theorem dX6_roofsWithLayersFrom_15 : decode cX6_roofsWithLayersFrom 15 = .ok (.iload 4, 2) := by decide +kernel
theorem dX6_roofsWithLayersFrom_17 : decode cX6_roofsWithLayersFrom 17 = .ok (.aload_n 0, 1) := by decide +kernel
theorem dX6_roofsWithLayersFrom_18 : decode cX6_roofsWithLayersFrom 18 = .ok (.getfield 24, 3) := by decide +kernel
theorem dX6_roofsWithLayersFrom_21 : decode cX6_roofsWithLayersFrom 21 = .ok (.iload_n 3, 1) := by decide +kernel
theorem dX6_roofsWithLayersFrom_22 : decode cX6_roofsWithLayersFrom 22 = .ok (.iaload, 1) := by decide +kernel
theorem dX6_roofsWithLayersFrom_23 : decode cX6_roofsWithLayersFrom 23 = .ok (.if_icmp .ge 33, 3) := by decide +kernel
theorem dX6_roofsWithLayersFrom_56 : decode cX6_roofsWithLayersFrom 56 = .ok (.iinc 3 1, 3) := by decide +kernel
theorem dX6_roofsWithLayersFrom_59 : decode cX6_roofsWithLayersFrom 59 = .ok (.goto (-55), 3) := by decide +kernel
theorem dX6_roofsWithLayersFrom_26 : decode cX6_roofsWithLayersFrom 26 = .ok (.iload_n 2, 1) := by decide +kernel
theorem dX6_roofsWithLayersFrom_27 : decode cX6_roofsWithLayersFrom 27 = .ok (.aload_n 0, 1) := by decide +kernel
theorem dX6_roofsWithLayersFrom_28 : decode cX6_roofsWithLayersFrom 28 = .ok (.iload_n 3, 1) := by decide +kernel
theorem dX6_roofsWithLayersFrom_29 : decode cX6_roofsWithLayersFrom 29 = .ok (.iload 4, 2) := by decide +kernel
theorem dX6_roofsWithLayersFrom_31 : decode cX6_roofsWithLayersFrom 31 = .ok (.invokevirtual 89, 3) := by decide +kernel
theorem dX6_roofsWithLayersFrom_34 : decode cX6_roofsWithLayersFrom 34 = .ok (.invokestatic 172, 3) := by decide +kernel
theorem hd_yX1_fromOf : HD yX1_fromOf RX1 1 := by decide +kernel
theorem mw_657 : Cond.methodLink RX6 172 yX1_fromOf ∈ wsL_law := List.mem_of_getElem? (i := 657) (by decide +kernel)
theorem mw_452 : Cond.static yX1_fromOf ∈ wsL_law := List.mem_of_getElem? (i := 452) (by decide +kernel)
theorem mw_453 : Cond.code yX1_fromOf cX1_fromOf 1 (some .int) ∈ wsL_law := List.mem_of_getElem? (i := 453) (by decide +kernel)
theorem dX6_roofsWithLayersFrom_37 : decode cX6_roofsWithLayersFrom 37 = .ok (.iload_n 1, 1) := by decide +kernel
theorem dX6_roofsWithLayersFrom_38 : decode cX6_roofsWithLayersFrom 38 = .ok (.if_icmp .ne 9, 3) := by decide +kernel
theorem dX6_roofsWithLayersFrom_47 : decode cX6_roofsWithLayersFrom 47 = .ok (.iconst 0, 1) := by decide +kernel
theorem dX6_roofsWithLayersFrom_48 : decode cX6_roofsWithLayersFrom 48 = .ok (.ior, 1) := by decide +kernel
theorem dX6_roofsWithLayersFrom_49 : decode cX6_roofsWithLayersFrom 49 = .ok (.istore_n 2, 1) := by decide +kernel
theorem dX6_roofsWithLayersFrom_50 : decode cX6_roofsWithLayersFrom 50 = .ok (.iinc 4 1, 3) := by decide +kernel
theorem dX6_roofsWithLayersFrom_53 : decode cX6_roofsWithLayersFrom 53 = .ok (.goto (-38), 3) := by decide +kernel
theorem dX6_roofsWithLayersFrom_41 : decode cX6_roofsWithLayersFrom 41 = .ok (.iconst 1, 1) := by decide +kernel
theorem dX6_roofsWithLayersFrom_42 : decode cX6_roofsWithLayersFrom 42 = .ok (.iload_n 3, 1) := by decide +kernel
theorem dX6_roofsWithLayersFrom_43 : decode cX6_roofsWithLayersFrom 43 = .ok (.ishl, 1) := by decide +kernel
theorem dX6_roofsWithLayersFrom_44 : decode cX6_roofsWithLayersFrom 44 = .ok (.goto 4, 3) := by decide +kernel
theorem dX6_sourcesOfUnsound_0 : decode cX6_sourcesOfUnsound 0 = .ok (.iconst 0, 1) := by decide +kernel
theorem dX6_sourcesOfUnsound_1 : decode cX6_sourcesOfUnsound 1 = .ok (.istore_n 2, 1) := by decide +kernel
theorem dX6_sourcesOfUnsound_2 : decode cX6_sourcesOfUnsound 2 = .ok (.iconst 0, 1) := by decide +kernel
theorem dX6_sourcesOfUnsound_3 : decode cX6_sourcesOfUnsound 3 = .ok (.istore_n 3, 1) := by decide +kernel
theorem dX6_sourcesOfUnsound_4 : decode cX6_sourcesOfUnsound 4 = .ok (.iload_n 3, 1) := by decide +kernel
theorem dX6_sourcesOfUnsound_5 : decode cX6_sourcesOfUnsound 5 = .ok (.aload_n 0, 1) := by decide +kernel
theorem dX6_sourcesOfUnsound_6 : decode cX6_sourcesOfUnsound 6 = .ok (.getfield 24, 3) := by decide +kernel
theorem dX6_sourcesOfUnsound_9 : decode cX6_sourcesOfUnsound 9 = .ok (.iload_n 1, 1) := by decide +kernel
theorem dX6_sourcesOfUnsound_10 : decode cX6_sourcesOfUnsound 10 = .ok (.iaload, 1) := by decide +kernel
theorem dX6_sourcesOfUnsound_11 : decode cX6_sourcesOfUnsound 11 = .ok (.if_icmp .ge 46, 3) := by decide +kernel
theorem dX6_sourcesOfUnsound_57 : decode cX6_sourcesOfUnsound 57 = .ok (.iload_n 2, 1) := by decide +kernel
theorem dX6_sourcesOfUnsound_58 : decode cX6_sourcesOfUnsound 58 = .ok (.ireturn, 1) := by decide +kernel
theorem dX6_sourcesOfUnsound_14 : decode cX6_sourcesOfUnsound 14 = .ok (.aload_n 0, 1) := by decide +kernel
theorem dX6_sourcesOfUnsound_15 : decode cX6_sourcesOfUnsound 15 = .ok (.iload_n 1, 1) := by decide +kernel
theorem dX6_sourcesOfUnsound_16 : decode cX6_sourcesOfUnsound 16 = .ok (.iload_n 3, 1) := by decide +kernel
theorem dX6_sourcesOfUnsound_17 : decode cX6_sourcesOfUnsound 17 = .ok (.invokevirtual 89, 3) := by decide +kernel
theorem dX6_sourcesOfUnsound_20 : decode cX6_sourcesOfUnsound 20 = .ok (.invokestatic 172, 3) := by decide +kernel
theorem dX6_sourcesOfUnsound_23 : decode cX6_sourcesOfUnsound 23 = .ok (.istore 4, 2) := by decide +kernel
theorem dX6_sourcesOfUnsound_25 : decode cX6_sourcesOfUnsound 25 = .ok (.iload 4, 2) := by decide +kernel
theorem dX6_sourcesOfUnsound_27 : decode cX6_sourcesOfUnsound 27 = .ok (.iconst (-1), 1) := by decide +kernel
theorem dX6_sourcesOfUnsound_28 : decode cX6_sourcesOfUnsound 28 = .ok (.if_icmp .eq 23, 3) := by decide +kernel
theorem dX6_sourcesOfUnsound_51 : decode cX6_sourcesOfUnsound 51 = .ok (.iinc 3 1, 3) := by decide +kernel
theorem dX6_sourcesOfUnsound_54 : decode cX6_sourcesOfUnsound 54 = .ok (.goto (-50), 3) := by decide +kernel
theorem dX6_sourcesOfUnsound_31 : decode cX6_sourcesOfUnsound 31 = .ok (.aload_n 0, 1) := by decide +kernel
theorem dX6_sourcesOfUnsound_32 : decode cX6_sourcesOfUnsound 32 = .ok (.aload_n 0, 1) := by decide +kernel
theorem dX6_sourcesOfUnsound_33 : decode cX6_sourcesOfUnsound 33 = .ok (.iload_n 1, 1) := by decide +kernel
theorem dX6_sourcesOfUnsound_34 : decode cX6_sourcesOfUnsound 34 = .ok (.iload_n 3, 1) := by decide +kernel
theorem dX6_sourcesOfUnsound_35 : decode cX6_sourcesOfUnsound 35 = .ok (.invokevirtual 89, 3) := by decide +kernel
theorem dX6_sourcesOfUnsound_38 : decode cX6_sourcesOfUnsound 38 = .ok (.invokevirtual 93, 3) := by decide +kernel
theorem dX6_sourcesOfUnsound_41 : decode cX6_sourcesOfUnsound 41 = .ok (.ifCond .ne 10, 3) := by decide +kernel
theorem dX6_sourcesOfUnsound_44 : decode cX6_sourcesOfUnsound 44 = .ok (.iload_n 2, 1) := by decide +kernel
theorem dX6_sourcesOfUnsound_45 : decode cX6_sourcesOfUnsound 45 = .ok (.iconst 1, 1) := by decide +kernel
theorem dX6_sourcesOfUnsound_46 : decode cX6_sourcesOfUnsound 46 = .ok (.iload 4, 2) := by decide +kernel
theorem dX6_sourcesOfUnsound_48 : decode cX6_sourcesOfUnsound 48 = .ok (.ishl, 1) := by decide +kernel
theorem dX6_sourcesOfUnsound_49 : decode cX6_sourcesOfUnsound 49 = .ok (.ior, 1) := by decide +kernel
theorem dX6_sourcesOfUnsound_50 : decode cX6_sourcesOfUnsound 50 = .ok (.istore_n 2, 1) := by decide +kernel
theorem dX6_placeOfSpark_0 : decode cX6_placeOfSpark 0 = .ok (.iconst 0, 1) := by decide +kernel
theorem dX6_placeOfSpark_1 : decode cX6_placeOfSpark 1 = .ok (.istore_n 2, 1) := by decide +kernel
theorem dX6_placeOfSpark_2 : decode cX6_placeOfSpark 2 = .ok (.iconst 0, 1) := by decide +kernel
theorem dX6_placeOfSpark_3 : decode cX6_placeOfSpark 3 = .ok (.istore_n 3, 1) := by decide +kernel
theorem dX6_placeOfSpark_4 : decode cX6_placeOfSpark 4 = .ok (.iload_n 3, 1) := by decide +kernel
theorem dX6_placeOfSpark_5 : decode cX6_placeOfSpark 5 = .ok (.aload_n 0, 1) := by decide +kernel
theorem dX6_placeOfSpark_6 : decode cX6_placeOfSpark 6 = .ok (.getfield 40, 3) := by decide +kernel
theorem dX6_placeOfSpark_9 : decode cX6_placeOfSpark 9 = .ok (.if_icmp .ge 58, 3) := by decide +kernel
theorem dX6_placeOfSpark_67 : decode cX6_placeOfSpark 67 = .ok (.iconst (-1), 1) := by decide +kernel
theorem dX6_placeOfSpark_68 : decode cX6_placeOfSpark 68 = .ok (.ireturn, 1) := by decide +kernel
theorem dX6_placeOfSpark_12 : decode cX6_placeOfSpark 12 = .ok (.iconst 0, 1) := by decide +kernel
theorem dX6_placeOfSpark_13 : decode cX6_placeOfSpark 13 = .ok (.istore 4, 2) := by decide +kernel
theorem dX6_placeOfSpark_15 : decode cX6_placeOfSpark 15 = .ok (.iload 4, 2) := by decide +kernel
theorem dX6_placeOfSpark_17 : decode cX6_placeOfSpark 17 = .ok (.aload_n 0, 1) := by decide +kernel
theorem dX6_placeOfSpark_18 : decode cX6_placeOfSpark 18 = .ok (.getfield 24, 3) := by decide +kernel
theorem dX6_placeOfSpark_21 : decode cX6_placeOfSpark 21 = .ok (.iload_n 3, 1) := by decide +kernel
theorem dX6_placeOfSpark_22 : decode cX6_placeOfSpark 22 = .ok (.iaload, 1) := by decide +kernel
theorem dX6_placeOfSpark_23 : decode cX6_placeOfSpark 23 = .ok (.if_icmp .ge 38, 3) := by decide +kernel
theorem dX6_placeOfSpark_61 : decode cX6_placeOfSpark 61 = .ok (.iinc 3 1, 3) := by decide +kernel
theorem dX6_placeOfSpark_64 : decode cX6_placeOfSpark 64 = .ok (.goto (-60), 3) := by decide +kernel
theorem dX6_placeOfSpark_26 : decode cX6_placeOfSpark 26 = .ok (.aload_n 0, 1) := by decide +kernel
theorem dX6_placeOfSpark_27 : decode cX6_placeOfSpark 27 = .ok (.iload_n 3, 1) := by decide +kernel
theorem dX6_placeOfSpark_28 : decode cX6_placeOfSpark 28 = .ok (.iload 4, 2) := by decide +kernel
theorem dX6_placeOfSpark_30 : decode cX6_placeOfSpark 30 = .ok (.invokevirtual 89, 3) := by decide +kernel
theorem dX6_placeOfSpark_33 : decode cX6_placeOfSpark 33 = .ok (.invokestatic 109, 3) := by decide +kernel
theorem dX6_placeOfSpark_36 : decode cX6_placeOfSpark 36 = .ok (.ifCond .eq 19, 3) := by decide +kernel
theorem dX6_placeOfSpark_55 : decode cX6_placeOfSpark 55 = .ok (.iinc 4 1, 3) := by decide +kernel
theorem dX6_placeOfSpark_58 : decode cX6_placeOfSpark 58 = .ok (.goto (-43), 3) := by decide +kernel
theorem dX6_placeOfSpark_39 : decode cX6_placeOfSpark 39 = .ok (.iload_n 2, 1) := by decide +kernel
theorem dX6_placeOfSpark_40 : decode cX6_placeOfSpark 40 = .ok (.iload_n 1, 1) := by decide +kernel
theorem dX6_placeOfSpark_41 : decode cX6_placeOfSpark 41 = .ok (.if_icmp .ne 11, 3) := by decide +kernel
theorem dX6_placeOfSpark_52 : decode cX6_placeOfSpark 52 = .ok (.iinc 2 1, 3) := by decide +kernel
theorem dX6_placeOfSpark_44 : decode cX6_placeOfSpark 44 = .ok (.bipush 10, 2) := by decide +kernel
theorem dX6_placeOfSpark_46 : decode cX6_placeOfSpark 46 = .ok (.iload_n 3, 1) := by decide +kernel
theorem dX6_placeOfSpark_47 : decode cX6_placeOfSpark 47 = .ok (.imul, 1) := by decide +kernel
theorem dX6_placeOfSpark_48 : decode cX6_placeOfSpark 48 = .ok (.iload 4, 2) := by decide +kernel
theorem dX6_placeOfSpark_50 : decode cX6_placeOfSpark 50 = .ok (.iadd, 1) := by decide +kernel
theorem dX6_placeOfSpark_51 : decode cX6_placeOfSpark 51 = .ok (.ireturn, 1) := by decide +kernel
theorem dX6_roofsWithNewTop_0 : decode cX6_roofsWithNewTop 0 = .ok (.iconst 0, 1) := by decide +kernel
theorem dX6_roofsWithNewTop_1 : decode cX6_roofsWithNewTop 1 = .ok (.istore_n 1, 1) := by decide +kernel
theorem dX6_roofsWithNewTop_2 : decode cX6_roofsWithNewTop 2 = .ok (.iconst 0, 1) := by decide +kernel
theorem dX6_roofsWithNewTop_3 : decode cX6_roofsWithNewTop 3 = .ok (.istore_n 2, 1) := by decide +kernel
theorem dX6_roofsWithNewTop_4 : decode cX6_roofsWithNewTop 4 = .ok (.iload_n 2, 1) := by decide +kernel
theorem dX6_roofsWithNewTop_5 : decode cX6_roofsWithNewTop 5 = .ok (.aload_n 0, 1) := by decide +kernel
theorem dX6_roofsWithNewTop_6 : decode cX6_roofsWithNewTop 6 = .ok (.getfield 40, 3) := by decide +kernel
theorem dX6_roofsWithNewTop_9 : decode cX6_roofsWithNewTop 9 = .ok (.if_icmp .ge 50, 3) := by decide +kernel
theorem dX6_roofsWithNewTop_59 : decode cX6_roofsWithNewTop 59 = .ok (.iload_n 1, 1) := by decide +kernel
theorem dX6_roofsWithNewTop_60 : decode cX6_roofsWithNewTop 60 = .ok (.ireturn, 1) := by decide +kernel
theorem dX6_roofsWithNewTop_12 : decode cX6_roofsWithNewTop 12 = .ok (.aload_n 0, 1) := by decide +kernel
theorem dX6_roofsWithNewTop_13 : decode cX6_roofsWithNewTop 13 = .ok (.getfield 24, 3) := by decide +kernel
theorem dX6_roofsWithNewTop_16 : decode cX6_roofsWithNewTop 16 = .ok (.iload_n 2, 1) := by decide +kernel
theorem dX6_roofsWithNewTop_17 : decode cX6_roofsWithNewTop 17 = .ok (.iaload, 1) := by decide +kernel
theorem dX6_roofsWithNewTop_18 : decode cX6_roofsWithNewTop 18 = .ok (.ifCond .le 19, 3) := by decide +kernel
theorem dX6_roofsWithNewTop_37 : decode cX6_roofsWithNewTop 37 = .ok (.iconst 0, 1) := by decide +kernel
theorem dX6_roofsWithNewTop_38 : decode cX6_roofsWithNewTop 38 = .ok (.istore_n 3, 1) := by decide +kernel
theorem dX6_roofsWithNewTop_39 : decode cX6_roofsWithNewTop 39 = .ok (.iload_n 1, 1) := by decide +kernel
theorem dX6_roofsWithNewTop_40 : decode cX6_roofsWithNewTop 40 = .ok (.iload_n 3, 1) := by decide +kernel
theorem dX6_roofsWithNewTop_41 : decode cX6_roofsWithNewTop 41 = .ok (.ifCond .eq 9, 3) := by decide +kernel
theorem dX6_roofsWithNewTop_50 : decode cX6_roofsWithNewTop 50 = .ok (.iconst 0, 1) := by decide +kernel
theorem dX6_roofsWithNewTop_51 : decode cX6_roofsWithNewTop 51 = .ok (.ior, 1) := by decide +kernel
theorem dX6_roofsWithNewTop_52 : decode cX6_roofsWithNewTop 52 = .ok (.istore_n 1, 1) := by decide +kernel
theorem dX6_roofsWithNewTop_53 : decode cX6_roofsWithNewTop 53 = .ok (.iinc 2 1, 3) := by decide +kernel
theorem dX6_roofsWithNewTop_56 : decode cX6_roofsWithNewTop 56 = .ok (.goto (-52), 3) := by decide +kernel
theorem dX6_roofsWithNewTop_21 : decode cX6_roofsWithNewTop 21 = .ok (.aload_n 0, 1) := by decide +kernel
theorem dX6_roofsWithNewTop_22 : decode cX6_roofsWithNewTop 22 = .ok (.iload_n 2, 1) := by decide +kernel
theorem dX6_roofsWithNewTop_23 : decode cX6_roofsWithNewTop 23 = .ok (.iconst 0, 1) := by decide +kernel
theorem dX6_roofsWithNewTop_24 : decode cX6_roofsWithNewTop 24 = .ok (.invokevirtual 89, 3) := by decide +kernel
theorem dX6_roofsWithNewTop_27 : decode cX6_roofsWithNewTop 27 = .ok (.invokestatic 86, 3) := by decide +kernel
theorem dX6_roofsWithNewTop_30 : decode cX6_roofsWithNewTop 30 = .ok (.ifCond .ne 7, 3) := by decide +kernel
theorem dX6_roofsWithNewTop_33 : decode cX6_roofsWithNewTop 33 = .ok (.iconst 1, 1) := by decide +kernel
theorem dX6_roofsWithNewTop_34 : decode cX6_roofsWithNewTop 34 = .ok (.goto 4, 3) := by decide +kernel
theorem dX6_roofsWithNewTop_44 : decode cX6_roofsWithNewTop 44 = .ok (.iconst 1, 1) := by decide +kernel
theorem dX6_roofsWithNewTop_45 : decode cX6_roofsWithNewTop 45 = .ok (.iload_n 2, 1) := by decide +kernel
theorem dX6_roofsWithNewTop_46 : decode cX6_roofsWithNewTop 46 = .ok (.ishl, 1) := by decide +kernel
theorem dX6_roofsWithNewTop_47 : decode cX6_roofsWithNewTop 47 = .ok (.goto 4, 3) := by decide +kernel
set_option maxHeartbeats 4000000 in
set_option maxRecDepth 100000 in
theorem s_W_isRoof (l : Launch) (D : va_G) (k : Nat → ClassId) (w : Nat → Nat) (y : Nat → Int32) (r : Int32) (w_h0 : 0 ≤ (y 0).toInt ∧ (y 0).toInt ≤ 10) (w_h2 : 0 ≤ (y 2).toInt ∧ (y 2).toInt ≤ 6) (w_h6 : 0 ≤ (y 6).toInt ∧ (y 6).toInt ≤ 1) : Met l yX6_isRoof (Cond.code yX6_isRoof cX6_isRoof 2 (some .boolean) :: wsL_law) ({ frames := 0, cells := 0, slots := 0, locals := 0 } : Room) (va_Pc [.ref (w 0), .int r] (pr D k [((w 0), .inr (5, [.int (y 0), .int (y 1), .int (y 2), .int (y 3), .int (y 4), .int (y 5), .int (y 6), .int (y 7), .int (y 8), .int (y 9), .int (y 10), .ref (w 1), .ref (w 2), .ref (w 3), .ref (w 4), .ref (w 5)]))])) (vp_Si (fun rr => rr = if 0 ≤ r.toInt ∧ r.toInt < (y 0).toInt then 1 else 0)) 0 0 (fun _ => False) := by
  refine Met.ofW (cc := cX6_isRoof) (maxL := 2) (ret := (some .boolean)) (by decide) rfl ?_
  intro p e s m args below meth c s₁ B hml hv
  obtain ⟨rfl, hP, hK, hN0⟩ := hv
  have hx := B.exec
  have hb := B.bytes
  have hr := B.returns
  have hts : ∀ w ∈ wsL_law, w.before _ s = true := fun w h => atoms_spec (ws := Cond.code yX6_isRoof cX6_isRoof 2 (some .boolean) :: wsL_law) B.pre w (List.mem_cons_of_mem _ h)
  have hown : s.vm.findClass RX6 = some m.cls := findClass_of_methodNamed B.named
  have hlocks := B.notSynchronized
  have hP : va_P D vwCl [((w 0), .inr (5, [.int (y 0), .int (y 1), .int (y 2), .int (y 3), .int (y 4), .int (y 5), .int (y 6), .int (y 7), .int (y 8), .int (y 9), .int (y 10), .ref (w 1), .ref (w 2), .ref (w 3), .ref (w 4), .ref (w 5)]))] s.heap := hP
  have hl := lv_entry ([.ref (w 0), .int r]) (n := 2) (Nat.le_of_ble_eq_true rfl)
  rw [lg_entry_eq]
  generalize (lg_sl ([.ref (w 0), .int r]) ++ List.replicate (2 - (lg_sl ([.ref (w 0), .int r])).length) Slot.unset).toArray = ls at hl ⊢
  have hl : lv_has ls 2 [(0, .ref (w 0)), (1, .int r)] := hl
  refine lv_iload_n hx hb dX6_isRoof_0 rfl (lv_at hl 1 rfl) ?_
  refine lv_if_lt (tgt := 16) hx hb dX6_isRoof_1 (by decide) (fun c_1 => ?_) (fun c_1 => ?_)
  · have c_1 : r.toInt < 0 := ti_lt c_1
    refine lv_iconst (v := 0) hx hb dX6_isRoof_16 (by decide) ?_
    exact W.zret (v := 0) hx hb hr rfl (fun t ht hW => ⟨0, rfl, (by (repeat' split) <;> first | rfl | (exfalso; omega)), ht⟩) (fun q h => by cases h) dX6_isRoof_17
  · have c_1 : 0 ≤ r.toInt := ti_nlt c_1
    refine lv_iload_n hx hb dX6_isRoof_4 rfl (lv_at hl 1 rfl) ?_
    refine lv_aload_n hx hb dX6_isRoof_5 rfl (lv_at hl 0 rfl) ?_
    refine va_get (D := D) (ci := 5) (v := .int (y 0)) (C := RX6) (T := TX6) (N := 16) hx hb hts inlX6 hown hK hP 0 rfl rfl 0 (by decide) (hts _ mw_152) (fun _ h9 => h9) rfl dX6_isRoof_6 ?_
    refine lv_icmp_ge (tgt := 16) hx hb dX6_isRoof_9 (by decide) (fun c_2 => ?_) (fun c_2 => ?_)
    · have c_2 : (y 0).toInt ≤ r.toInt := ti_le c_2
      refine lv_iconst (v := 0) hx hb dX6_isRoof_16 (by decide) ?_
      exact W.zret (v := 0) hx hb hr rfl (fun t ht hW => ⟨0, rfl, (by (repeat' split) <;> first | rfl | (exfalso; omega)), ht⟩) (fun q h => by cases h) dX6_isRoof_17
    · have c_2 : r.toInt < (y 0).toInt := ti_nle c_2
      refine lv_iconst (v := 1) hx hb dX6_isRoof_12 (by decide) ?_
      refine lv_goto (tgt := 17) hx hb dX6_isRoof_13 (by decide) ?_
      exact W.zret (v := 1) hx hb hr rfl (fun t ht hW => ⟨1, rfl, (by (repeat' split) <;> first | rfl | (exfalso; omega)), ht⟩) (fun q h => by cases h) dX6_isRoof_17
set_option maxHeartbeats 4000000 in
set_option maxRecDepth 100000 in
theorem s_W_allRoofs (l : Launch) (D : va_G) (k : Nat → ClassId) (w : Nat → Nat) (y : Nat → Int32) (w_h0 : 0 ≤ (y 0).toInt ∧ (y 0).toInt ≤ 10) (w_h2 : 0 ≤ (y 2).toInt ∧ (y 2).toInt ≤ 6) (w_h6 : 0 ≤ (y 6).toInt ∧ (y 6).toInt ≤ 1) : Met l yX6_allRoofs (Cond.code yX6_allRoofs cX6_allRoofs 1 (some .int) :: wsL_law) ({ frames := 0, cells := 0, slots := 0, locals := 0 } : Room) (va_Pc [.ref (w 0)] (pr D k [((w 0), .inr (5, [.int (y 0), .int (y 1), .int (y 2), .int (y 3), .int (y 4), .int (y 5), .int (y 6), .int (y 7), .int (y 8), .int (y 9), .int (y 10), .ref (w 1), .ref (w 2), .ref (w 3), .ref (w 4), .ref (w 5)]))])) (vp_Si (fun rr => 0 ≤ rr.toInt ∧ rr.toInt ≤ 1023)) 0 0 (fun _ => False) := by
  refine Met.ofW (cc := cX6_allRoofs) (maxL := 1) (ret := (some .int)) (by decide) rfl ?_
  intro p e s m args below meth c s₁ B hml hv
  obtain ⟨rfl, hP, hK, hN0⟩ := hv
  have hx := B.exec
  have hb := B.bytes
  have hr := B.returns
  have hts : ∀ w ∈ wsL_law, w.before _ s = true := fun w h => atoms_spec (ws := Cond.code yX6_allRoofs cX6_allRoofs 1 (some .int) :: wsL_law) B.pre w (List.mem_cons_of_mem _ h)
  have hown : s.vm.findClass RX6 = some m.cls := findClass_of_methodNamed B.named
  have hlocks := B.notSynchronized
  have hP : va_P D vwCl [((w 0), .inr (5, [.int (y 0), .int (y 1), .int (y 2), .int (y 3), .int (y 4), .int (y 5), .int (y 6), .int (y 7), .int (y 8), .int (y 9), .int (y 10), .ref (w 1), .ref (w 2), .ref (w 3), .ref (w 4), .ref (w 5)]))] s.heap := hP
  have hl := lv_entry ([.ref (w 0)]) (n := 1) (Nat.le_of_ble_eq_true rfl)
  rw [lg_entry_eq]
  generalize (lg_sl ([.ref (w 0)]) ++ List.replicate (1 - (lg_sl ([.ref (w 0)])).length) Slot.unset).toArray = ls at hl ⊢
  have hl : lv_has ls 1 [(0, .ref (w 0))] := hl
  rcases (show (y 0).toInt = 0 ∨ (y 0).toInt = 1 ∨ (y 0).toInt = 2 ∨ (y 0).toInt = 3 ∨ (y 0).toInt = 4 ∨ (y 0).toInt = 5 ∨ (y 0).toInt = 6 ∨ (y 0).toInt = 7 ∨ (y 0).toInt = 8 ∨ (y 0).toInt = 9 ∨ (y 0).toInt = 10 from by omega) with c_1 | c_2 | c_3 | c_4 | c_5 | c_6 | c_7 | c_8 | c_9 | c_10 | c_11
  · have qc_1 : (y 0) = 0 := ti_of (show (y 0).toInt = 0 from c_1)
    refine lv_iconst (v := 1) hx hb dX6_allRoofs_0 (by decide) ?_
    refine lv_aload_n hx hb dX6_allRoofs_1 rfl (lv_at hl 0 rfl) ?_
    refine va_get (D := D) (ci := 5) (v := .int (y 0)) (C := RX6) (T := TX6) (N := 16) hx hb hts inlX6 hown hK hP 0 rfl rfl 0 (by decide) (hts _ mw_152) (fun _ h9 => h9) rfl dX6_allRoofs_2 ?_
    refine lv_ni (v := 0) (qc_1) ?_
    refine lv_ishl hx hb dX6_allRoofs_5 ?_
    refine lv_ni (v := 1) (by decide) ?_
    refine lv_iconst (v := 1) hx hb dX6_allRoofs_6 (by decide) ?_
    refine lv_isub hx hb dX6_allRoofs_7 ?_
    refine lv_ni (v := 0) (by decide) ?_
    exact W.iret (v := 0) hx hb hr (fun t ht hW => ⟨0, rfl, ⟨by decide, by decide⟩, ht⟩) (fun q h => by cases h) dX6_allRoofs_8
  · have qc_2 : (y 0) = 1 := ti_of (show (y 0).toInt = 1 from c_2)
    refine lv_iconst (v := 1) hx hb dX6_allRoofs_0 (by decide) ?_
    refine lv_aload_n hx hb dX6_allRoofs_1 rfl (lv_at hl 0 rfl) ?_
    refine va_get (D := D) (ci := 5) (v := .int (y 0)) (C := RX6) (T := TX6) (N := 16) hx hb hts inlX6 hown hK hP 0 rfl rfl 0 (by decide) (hts _ mw_152) (fun _ h9 => h9) rfl dX6_allRoofs_2 ?_
    refine lv_ni (v := 1) (qc_2) ?_
    refine lv_ishl hx hb dX6_allRoofs_5 ?_
    refine lv_ni (v := 2) (by decide) ?_
    refine lv_iconst (v := 1) hx hb dX6_allRoofs_6 (by decide) ?_
    refine lv_isub hx hb dX6_allRoofs_7 ?_
    refine lv_ni (v := 1) (by decide) ?_
    exact W.iret (v := 1) hx hb hr (fun t ht hW => ⟨1, rfl, ⟨by decide, by decide⟩, ht⟩) (fun q h => by cases h) dX6_allRoofs_8
  · have qc_3 : (y 0) = 2 := ti_of (show (y 0).toInt = 2 from c_3)
    refine lv_iconst (v := 1) hx hb dX6_allRoofs_0 (by decide) ?_
    refine lv_aload_n hx hb dX6_allRoofs_1 rfl (lv_at hl 0 rfl) ?_
    refine va_get (D := D) (ci := 5) (v := .int (y 0)) (C := RX6) (T := TX6) (N := 16) hx hb hts inlX6 hown hK hP 0 rfl rfl 0 (by decide) (hts _ mw_152) (fun _ h9 => h9) rfl dX6_allRoofs_2 ?_
    refine lv_ni (v := 2) (qc_3) ?_
    refine lv_ishl hx hb dX6_allRoofs_5 ?_
    refine lv_ni (v := 4) (by decide) ?_
    refine lv_iconst (v := 1) hx hb dX6_allRoofs_6 (by decide) ?_
    refine lv_isub hx hb dX6_allRoofs_7 ?_
    refine lv_ni (v := 3) (by decide) ?_
    exact W.iret (v := 3) hx hb hr (fun t ht hW => ⟨3, rfl, ⟨by decide, by decide⟩, ht⟩) (fun q h => by cases h) dX6_allRoofs_8
  · have qc_4 : (y 0) = 3 := ti_of (show (y 0).toInt = 3 from c_4)
    refine lv_iconst (v := 1) hx hb dX6_allRoofs_0 (by decide) ?_
    refine lv_aload_n hx hb dX6_allRoofs_1 rfl (lv_at hl 0 rfl) ?_
    refine va_get (D := D) (ci := 5) (v := .int (y 0)) (C := RX6) (T := TX6) (N := 16) hx hb hts inlX6 hown hK hP 0 rfl rfl 0 (by decide) (hts _ mw_152) (fun _ h9 => h9) rfl dX6_allRoofs_2 ?_
    refine lv_ni (v := 3) (qc_4) ?_
    refine lv_ishl hx hb dX6_allRoofs_5 ?_
    refine lv_ni (v := 8) (by decide) ?_
    refine lv_iconst (v := 1) hx hb dX6_allRoofs_6 (by decide) ?_
    refine lv_isub hx hb dX6_allRoofs_7 ?_
    refine lv_ni (v := 7) (by decide) ?_
    exact W.iret (v := 7) hx hb hr (fun t ht hW => ⟨7, rfl, ⟨by decide, by decide⟩, ht⟩) (fun q h => by cases h) dX6_allRoofs_8
  · have qc_5 : (y 0) = 4 := ti_of (show (y 0).toInt = 4 from c_5)
    refine lv_iconst (v := 1) hx hb dX6_allRoofs_0 (by decide) ?_
    refine lv_aload_n hx hb dX6_allRoofs_1 rfl (lv_at hl 0 rfl) ?_
    refine va_get (D := D) (ci := 5) (v := .int (y 0)) (C := RX6) (T := TX6) (N := 16) hx hb hts inlX6 hown hK hP 0 rfl rfl 0 (by decide) (hts _ mw_152) (fun _ h9 => h9) rfl dX6_allRoofs_2 ?_
    refine lv_ni (v := 4) (qc_5) ?_
    refine lv_ishl hx hb dX6_allRoofs_5 ?_
    refine lv_ni (v := 16) (by decide) ?_
    refine lv_iconst (v := 1) hx hb dX6_allRoofs_6 (by decide) ?_
    refine lv_isub hx hb dX6_allRoofs_7 ?_
    refine lv_ni (v := 15) (by decide) ?_
    exact W.iret (v := 15) hx hb hr (fun t ht hW => ⟨15, rfl, ⟨by decide, by decide⟩, ht⟩) (fun q h => by cases h) dX6_allRoofs_8
  · have qc_6 : (y 0) = 5 := ti_of (show (y 0).toInt = 5 from c_6)
    refine lv_iconst (v := 1) hx hb dX6_allRoofs_0 (by decide) ?_
    refine lv_aload_n hx hb dX6_allRoofs_1 rfl (lv_at hl 0 rfl) ?_
    refine va_get (D := D) (ci := 5) (v := .int (y 0)) (C := RX6) (T := TX6) (N := 16) hx hb hts inlX6 hown hK hP 0 rfl rfl 0 (by decide) (hts _ mw_152) (fun _ h9 => h9) rfl dX6_allRoofs_2 ?_
    refine lv_ni (v := 5) (qc_6) ?_
    refine lv_ishl hx hb dX6_allRoofs_5 ?_
    refine lv_ni (v := 32) (by decide) ?_
    refine lv_iconst (v := 1) hx hb dX6_allRoofs_6 (by decide) ?_
    refine lv_isub hx hb dX6_allRoofs_7 ?_
    refine lv_ni (v := 31) (by decide) ?_
    exact W.iret (v := 31) hx hb hr (fun t ht hW => ⟨31, rfl, ⟨by decide, by decide⟩, ht⟩) (fun q h => by cases h) dX6_allRoofs_8
  · have qc_7 : (y 0) = 6 := ti_of (show (y 0).toInt = 6 from c_7)
    refine lv_iconst (v := 1) hx hb dX6_allRoofs_0 (by decide) ?_
    refine lv_aload_n hx hb dX6_allRoofs_1 rfl (lv_at hl 0 rfl) ?_
    refine va_get (D := D) (ci := 5) (v := .int (y 0)) (C := RX6) (T := TX6) (N := 16) hx hb hts inlX6 hown hK hP 0 rfl rfl 0 (by decide) (hts _ mw_152) (fun _ h9 => h9) rfl dX6_allRoofs_2 ?_
    refine lv_ni (v := 6) (qc_7) ?_
    refine lv_ishl hx hb dX6_allRoofs_5 ?_
    refine lv_ni (v := 64) (by decide) ?_
    refine lv_iconst (v := 1) hx hb dX6_allRoofs_6 (by decide) ?_
    refine lv_isub hx hb dX6_allRoofs_7 ?_
    refine lv_ni (v := 63) (by decide) ?_
    exact W.iret (v := 63) hx hb hr (fun t ht hW => ⟨63, rfl, ⟨by decide, by decide⟩, ht⟩) (fun q h => by cases h) dX6_allRoofs_8
  · have qc_8 : (y 0) = 7 := ti_of (show (y 0).toInt = 7 from c_8)
    refine lv_iconst (v := 1) hx hb dX6_allRoofs_0 (by decide) ?_
    refine lv_aload_n hx hb dX6_allRoofs_1 rfl (lv_at hl 0 rfl) ?_
    refine va_get (D := D) (ci := 5) (v := .int (y 0)) (C := RX6) (T := TX6) (N := 16) hx hb hts inlX6 hown hK hP 0 rfl rfl 0 (by decide) (hts _ mw_152) (fun _ h9 => h9) rfl dX6_allRoofs_2 ?_
    refine lv_ni (v := 7) (qc_8) ?_
    refine lv_ishl hx hb dX6_allRoofs_5 ?_
    refine lv_ni (v := 128) (by decide) ?_
    refine lv_iconst (v := 1) hx hb dX6_allRoofs_6 (by decide) ?_
    refine lv_isub hx hb dX6_allRoofs_7 ?_
    refine lv_ni (v := 127) (by decide) ?_
    exact W.iret (v := 127) hx hb hr (fun t ht hW => ⟨127, rfl, ⟨by decide, by decide⟩, ht⟩) (fun q h => by cases h) dX6_allRoofs_8
  · have qc_9 : (y 0) = 8 := ti_of (show (y 0).toInt = 8 from c_9)
    refine lv_iconst (v := 1) hx hb dX6_allRoofs_0 (by decide) ?_
    refine lv_aload_n hx hb dX6_allRoofs_1 rfl (lv_at hl 0 rfl) ?_
    refine va_get (D := D) (ci := 5) (v := .int (y 0)) (C := RX6) (T := TX6) (N := 16) hx hb hts inlX6 hown hK hP 0 rfl rfl 0 (by decide) (hts _ mw_152) (fun _ h9 => h9) rfl dX6_allRoofs_2 ?_
    refine lv_ni (v := 8) (qc_9) ?_
    refine lv_ishl hx hb dX6_allRoofs_5 ?_
    refine lv_ni (v := 256) (by decide) ?_
    refine lv_iconst (v := 1) hx hb dX6_allRoofs_6 (by decide) ?_
    refine lv_isub hx hb dX6_allRoofs_7 ?_
    refine lv_ni (v := 255) (by decide) ?_
    exact W.iret (v := 255) hx hb hr (fun t ht hW => ⟨255, rfl, ⟨by decide, by decide⟩, ht⟩) (fun q h => by cases h) dX6_allRoofs_8
  · have qc_10 : (y 0) = 9 := ti_of (show (y 0).toInt = 9 from c_10)
    refine lv_iconst (v := 1) hx hb dX6_allRoofs_0 (by decide) ?_
    refine lv_aload_n hx hb dX6_allRoofs_1 rfl (lv_at hl 0 rfl) ?_
    refine va_get (D := D) (ci := 5) (v := .int (y 0)) (C := RX6) (T := TX6) (N := 16) hx hb hts inlX6 hown hK hP 0 rfl rfl 0 (by decide) (hts _ mw_152) (fun _ h9 => h9) rfl dX6_allRoofs_2 ?_
    refine lv_ni (v := 9) (qc_10) ?_
    refine lv_ishl hx hb dX6_allRoofs_5 ?_
    refine lv_ni (v := 512) (by decide) ?_
    refine lv_iconst (v := 1) hx hb dX6_allRoofs_6 (by decide) ?_
    refine lv_isub hx hb dX6_allRoofs_7 ?_
    refine lv_ni (v := 511) (by decide) ?_
    exact W.iret (v := 511) hx hb hr (fun t ht hW => ⟨511, rfl, ⟨by decide, by decide⟩, ht⟩) (fun q h => by cases h) dX6_allRoofs_8
  · have qc_11 : (y 0) = 10 := ti_of (show (y 0).toInt = 10 from c_11)
    refine lv_iconst (v := 1) hx hb dX6_allRoofs_0 (by decide) ?_
    refine lv_aload_n hx hb dX6_allRoofs_1 rfl (lv_at hl 0 rfl) ?_
    refine va_get (D := D) (ci := 5) (v := .int (y 0)) (C := RX6) (T := TX6) (N := 16) hx hb hts inlX6 hown hK hP 0 rfl rfl 0 (by decide) (hts _ mw_152) (fun _ h9 => h9) rfl dX6_allRoofs_2 ?_
    refine lv_ni (v := 10) (qc_11) ?_
    refine lv_ishl hx hb dX6_allRoofs_5 ?_
    refine lv_ni (v := 1024) (by decide) ?_
    refine lv_iconst (v := 1) hx hb dX6_allRoofs_6 (by decide) ?_
    refine lv_isub hx hb dX6_allRoofs_7 ?_
    refine lv_ni (v := 1023) (by decide) ?_
    exact W.iret (v := 1023) hx hb hr (fun t ht hW => ⟨1023, rfl, ⟨by decide, by decide⟩, ht⟩) (fun q h => by cases h) dX6_allRoofs_8
set_option maxHeartbeats 4000000 in
set_option maxRecDepth 100000 in
theorem s_W_thatched (l : Launch) (D : va_G) (k : Nat → ClassId) (w : Nat → Nat) (y : Nat → Int32) (w_h0 : 0 ≤ (y 0).toInt ∧ (y 0).toInt ≤ 10) (w_h2 : 0 ≤ (y 2).toInt ∧ (y 2).toInt ≤ 6) (w_h6 : 0 ≤ (y 6).toInt ∧ (y 6).toInt ≤ 1) : Met l yX6_thatched (Cond.code yX6_thatched cX6_thatched 1 (some .int) :: wsL_law) ({ frames := 1, cells := 0, slots := 0, locals := 60 } : Room) (va_Pc [.ref (w 0)] (pr D k [((w 0), .inr (5, [.int (y 0), .int (y 1), .int (y 2), .int (y 3), .int (y 4), .int (y 5), .int (y 6), .int (y 7), .int (y 8), .int (y 9), .int (y 10), .ref (w 1), .ref (w 2), .ref (w 3), .ref (w 4), .ref (w 5)]))])) (vp_Si (fun rr => 0 ≤ rr.toInt ∧ rr.toInt ≤ 1023)) 0 0 (fun _ => False) := by
  refine Met.ofW (cc := cX6_thatched) (maxL := 1) (ret := (some .int)) (by decide) rfl ?_
  intro p e s m args below meth c s₁ B hml hv
  obtain ⟨rfl, hP, hK, hN0⟩ := hv
  have hx := B.exec
  have hb := B.bytes
  have hr := B.returns
  have hts : ∀ w ∈ wsL_law, w.before _ s = true := fun w h => atoms_spec (ws := Cond.code yX6_thatched cX6_thatched 1 (some .int) :: wsL_law) B.pre w (List.mem_cons_of_mem _ h)
  have hown : s.vm.findClass RX6 = some m.cls := findClass_of_methodNamed B.named
  have hlocks := B.notSynchronized
  have hP : va_P D vwCl [((w 0), .inr (5, [.int (y 0), .int (y 1), .int (y 2), .int (y 3), .int (y 4), .int (y 5), .int (y 6), .int (y 7), .int (y 8), .int (y 9), .int (y 10), .ref (w 1), .ref (w 2), .ref (w 3), .ref (w 4), .ref (w 5)]))] s.heap := hP
  have hl := lv_entry ([.ref (w 0)]) (n := 1) (Nat.le_of_ble_eq_true rfl)
  rw [lg_entry_eq]
  generalize (lg_sl ([.ref (w 0)]) ++ List.replicate (1 - (lg_sl ([.ref (w 0)])).length) Slot.unset).toArray = ls at hl ⊢
  have hl : lv_has ls 1 [(0, .ref (w 0))] := hl
  refine lv_aload_n hx hb dX6_thatched_0 rfl (lv_at hl 0 rfl) ?_
  refine kV_i (q0 := 0) (As := []) (rest := []) ⟨hx, hb, hml, hown, hts⟩ (s_W_allRoofs l D k _ y (show 0 ≤ (y 0).toInt ∧ (y 0).toInt ≤ 10 from ⟨by omega, by omega⟩) (show 0 ≤ (y 2).toInt ∧ (y 2).toInt ≤ 6 from ⟨by omega, by omega⟩) (show 0 ≤ (y 6).toInt ∧ (y 6).toInt ≤ 1 from ⟨by omega, by omega⟩)) (gV mw_474 mw_475 mw_476 mw_19 mw_477) hd_yX6_allRoofs rfl rfl ⟨Nat.le_of_ble_eq_true rfl, Nat.le_of_ble_eq_true rfl⟩ hK hN0 (hP.sub [0] rfl) rfl rfl rfl rfl hl.1 rfl (Nat.le_of_ble_eq_true rfl) dX6_thatched_1 ⟨Nat.le_of_ble_eq_true rfl, Nat.le_of_ble_eq_true rfl⟩ (fun r_1 hr_1 => ?_)
  have hr_1 : 0 ≤ r_1.toInt ∧ r_1.toInt ≤ 1023 := hr_1
  refine lv_aload_n hx hb dX6_thatched_4 rfl (lv_at hl 0 rfl) ?_
  refine va_get (D := D) (ci := 5) (v := .int (y 7)) (C := RX6) (T := TX6) (N := 16) hx hb hts inlX6 hown hK hP 0 rfl rfl 7 (by decide) (hts _ mw_155) (fun _ h9 => h9) rfl dX6_thatched_5 ?_
  refine lv_iconst (v := (-1)) hx hb dX6_thatched_8 (by decide) ?_
  refine lv_ixor hx hb dX6_thatched_9 ?_
  refine lv_topi (fun z_2 ez_2 => ?_)
  refine lv_iand hx hb dX6_thatched_10 ?_
  refine lv_topi (fun z_3 ez_3 => ?_)
  have tz_3 : 0 ≤ z_3.toInt ∧ z_3.toInt ≤ r_1.toInt := by rw [ez_3]; exact and_bl (by omega) (Int.le_refl _)
  exact W.iret (v := z_3) hx hb hr (fun t ht hW => ⟨z_3, rfl, ⟨by omega, by omega⟩, ht⟩) (fun q h => by cases h) dX6_thatched_11
set_option maxHeartbeats 4000000 in
set_option maxRecDepth 100000 in
theorem s_W_giverOf (l : Launch) (D : va_G) (k : Nat → ClassId) (w : Nat → Nat) (y : Nat → Int32) (r : Int32) (w_h0 : 0 ≤ (y 0).toInt ∧ (y 0).toInt ≤ 10) (w_h2 : 0 ≤ (y 2).toInt ∧ (y 2).toInt ≤ 6) (w_h6 : 0 ≤ (y 6).toInt ∧ (y 6).toInt ≤ 1) (w_hr : 0 ≤ r.toInt ∧ r.toInt ≤ 9) : Met l yX6_giverOf (Cond.code yX6_giverOf cX6_giverOf 2 (some .int) :: wsL_law) ({ frames := 0, cells := 0, slots := 0, locals := 0 } : Room) (va_Pc [.ref (w 0), .int r] (pr D k [((w 0), .inr (5, [.int (y 0), .int (y 1), .int (y 2), .int (y 3), .int (y 4), .int (y 5), .int (y 6), .int (y 7), .int (y 8), .int (y 9), .int (y 10), .ref (w 1), .ref (w 2), .ref (w 3), .ref (w 4), .ref (w 5)]))])) (vp_Si (fun rr => -1 ≤ rr.toInt ∧ rr.toInt ≤ 9)) 0 0 (fun _ => False) := by
  refine Met.ofW (cc := cX6_giverOf) (maxL := 2) (ret := (some .int)) (by decide) rfl ?_
  intro p e s m args below meth c s₁ B hml hv
  obtain ⟨rfl, hP, hK, hN0⟩ := hv
  have hx := B.exec
  have hb := B.bytes
  have hr := B.returns
  have hts : ∀ w ∈ wsL_law, w.before _ s = true := fun w h => atoms_spec (ws := Cond.code yX6_giverOf cX6_giverOf 2 (some .int) :: wsL_law) B.pre w (List.mem_cons_of_mem _ h)
  have hown : s.vm.findClass RX6 = some m.cls := findClass_of_methodNamed B.named
  have hlocks := B.notSynchronized
  have hP : va_P D vwCl [((w 0), .inr (5, [.int (y 0), .int (y 1), .int (y 2), .int (y 3), .int (y 4), .int (y 5), .int (y 6), .int (y 7), .int (y 8), .int (y 9), .int (y 10), .ref (w 1), .ref (w 2), .ref (w 3), .ref (w 4), .ref (w 5)]))] s.heap := hP
  have hl := lv_entry ([.ref (w 0), .int r]) (n := 2) (Nat.le_of_ble_eq_true rfl)
  rw [lg_entry_eq]
  generalize (lg_sl ([.ref (w 0), .int r]) ++ List.replicate (2 - (lg_sl ([.ref (w 0), .int r])).length) Slot.unset).toArray = ls at hl ⊢
  have hl : lv_has ls 2 [(0, .ref (w 0)), (1, .int r)] := hl
  refine lv_iload_n hx hb dX6_giverOf_0 rfl (lv_at hl 1 rfl) ?_
  refine lv_if_le (tgt := 8) hx hb dX6_giverOf_1 (by decide) (fun c_1 => ?_) (fun c_1 => ?_)
  · have c_1 : r.toInt ≤ 0 := ti_le c_1
    have qc_1 : r = 0 := ti_of (show r.toInt = 0 from by omega)
    refine lv_aload_n hx hb dX6_giverOf_8 rfl (lv_at hl 0 rfl) ?_
    refine va_get (D := D) (ci := 5) (v := .int (y 6)) (C := RX6) (T := TX6) (N := 16) hx hb hts inlX6 hown hK hP 0 rfl rfl 6 (by decide) (hts _ mw_154) (fun _ h9 => h9) rfl dX6_giverOf_9 ?_
    refine lv_if_eq (tgt := 32) hx hb dX6_giverOf_12 (by decide) (fun c_2 => ?_) (fun c_2 => ?_)
    · have c_2 : (y 6).toInt = 0 := ti_eq c_2
      have qc_2 : (y 6) = 0 := ti_of (show (y 6).toInt = 0 from by omega)
      refine lv_iconst (v := (-1)) hx hb dX6_giverOf_32 (by decide) ?_
      exact W.iret (v := (-1)) hx hb hr (fun t ht hW => ⟨(-1), rfl, ⟨by decide, by decide⟩, ht⟩) (fun q h => by cases h) dX6_giverOf_33
    · have c_2 : (y 6).toInt ≠ 0 := ti_ne c_2
      have qc_2 : (y 6) = 1 := ti_of (show (y 6).toInt = 1 from by omega)
      refine lv_aload_n hx hb dX6_giverOf_15 rfl (lv_at hl 0 rfl) ?_
      refine va_get (D := D) (ci := 5) (v := .int (y 0)) (C := RX6) (T := TX6) (N := 16) hx hb hts inlX6 hown hK hP 0 rfl rfl 0 (by decide) (hts _ mw_152) (fun _ h9 => h9) rfl dX6_giverOf_16 ?_
      refine lv_iconst (v := 2) hx hb dX6_giverOf_19 (by decide) ?_
      refine lv_icmp_lt (tgt := 32) hx hb dX6_giverOf_20 (by decide) (fun c_3 => ?_) (fun c_3 => ?_)
      · have c_3 : (y 0).toInt < 2 := ti_lt c_3
        refine lv_iconst (v := (-1)) hx hb dX6_giverOf_32 (by decide) ?_
        exact W.iret (v := (-1)) hx hb hr (fun t ht hW => ⟨(-1), rfl, ⟨by decide, by decide⟩, ht⟩) (fun q h => by cases h) dX6_giverOf_33
      · have c_3 : 2 ≤ (y 0).toInt := ti_nlt c_3
        refine lv_aload_n hx hb dX6_giverOf_23 rfl (lv_at hl 0 rfl) ?_
        refine va_get (D := D) (ci := 5) (v := .int (y 0)) (C := RX6) (T := TX6) (N := 16) hx hb hts inlX6 hown hK hP 0 rfl rfl 0 (by decide) (hts _ mw_152) (fun _ h9 => h9) rfl dX6_giverOf_24 ?_
        refine lv_iconst (v := 1) hx hb dX6_giverOf_27 (by decide) ?_
        refine lv_isub hx hb dX6_giverOf_28 ?_
        refine lv_topi (fun z_4 ez_4 => ?_)
        have tz_4 : z_4.toInt = (y 0).toInt - 1 := by rw [ez_4]; exact ti_subc (by decide) (by omega) (by omega)
        refine lv_goto (tgt := 33) hx hb dX6_giverOf_29 (by decide) ?_
        exact W.iret (v := z_4) hx hb hr (fun t ht hW => ⟨z_4, rfl, ⟨by omega, by omega⟩, ht⟩) (fun q h => by cases h) dX6_giverOf_33
  · have c_1 : 0 < r.toInt := ti_nle c_1
    refine lv_iload_n hx hb dX6_giverOf_4 rfl (lv_at hl 1 rfl) ?_
    refine lv_iconst (v := 1) hx hb dX6_giverOf_5 (by decide) ?_
    refine lv_isub hx hb dX6_giverOf_6 ?_
    refine lv_topi (fun z_5 ez_5 => ?_)
    have tz_5 : z_5.toInt = r.toInt - 1 := by rw [ez_5]; exact ti_subc (by decide) (by omega) (by omega)
    exact W.iret (v := z_5) hx hb hr (fun t ht hW => ⟨z_5, rfl, ⟨by omega, by omega⟩, ht⟩) (fun q h => by cases h) dX6_giverOf_7
set_option maxHeartbeats 4000000 in
set_option maxRecDepth 100000 in
theorem s_W_takerOf (l : Launch) (D : va_G) (k : Nat → ClassId) (w : Nat → Nat) (y : Nat → Int32) (r : Int32) (w_h0 : 0 ≤ (y 0).toInt ∧ (y 0).toInt ≤ 10) (w_h2 : 0 ≤ (y 2).toInt ∧ (y 2).toInt ≤ 6) (w_h6 : 0 ≤ (y 6).toInt ∧ (y 6).toInt ≤ 1) : Met l yX6_takerOf (Cond.code yX6_takerOf cX6_takerOf 2 (some .int) :: wsL_law) ({ frames := 0, cells := 0, slots := 0, locals := 0 } : Room) (va_Pc [.ref (w 0), .int r] (pr D k [((w 0), .inr (5, [.int (y 0), .int (y 1), .int (y 2), .int (y 3), .int (y 4), .int (y 5), .int (y 6), .int (y 7), .int (y 8), .int (y 9), .int (y 10), .ref (w 1), .ref (w 2), .ref (w 3), .ref (w 4), .ref (w 5)]))])) (vp_Si (fun rr => True)) 0 0 (fun _ => False) := by
  refine Met.ofW (cc := cX6_takerOf) (maxL := 2) (ret := (some .int)) (by decide) rfl ?_
  intro p e s m args below meth c s₁ B hml hv
  obtain ⟨rfl, hP, hK, hN0⟩ := hv
  have hx := B.exec
  have hb := B.bytes
  have hr := B.returns
  have hts : ∀ w ∈ wsL_law, w.before _ s = true := fun w h => atoms_spec (ws := Cond.code yX6_takerOf cX6_takerOf 2 (some .int) :: wsL_law) B.pre w (List.mem_cons_of_mem _ h)
  have hown : s.vm.findClass RX6 = some m.cls := findClass_of_methodNamed B.named
  have hlocks := B.notSynchronized
  have hP : va_P D vwCl [((w 0), .inr (5, [.int (y 0), .int (y 1), .int (y 2), .int (y 3), .int (y 4), .int (y 5), .int (y 6), .int (y 7), .int (y 8), .int (y 9), .int (y 10), .ref (w 1), .ref (w 2), .ref (w 3), .ref (w 4), .ref (w 5)]))] s.heap := hP
  have hl := lv_entry ([.ref (w 0), .int r]) (n := 2) (Nat.le_of_ble_eq_true rfl)
  rw [lg_entry_eq]
  generalize (lg_sl ([.ref (w 0), .int r]) ++ List.replicate (2 - (lg_sl ([.ref (w 0), .int r])).length) Slot.unset).toArray = ls at hl ⊢
  have hl : lv_has ls 2 [(0, .ref (w 0)), (1, .int r)] := hl
  refine lv_iload_n hx hb dX6_takerOf_0 rfl (lv_at hl 1 rfl) ?_
  refine lv_iconst (v := 1) hx hb dX6_takerOf_1 (by decide) ?_
  refine lv_iadd hx hb dX6_takerOf_2 ?_
  refine lv_topi (fun z_1 ez_1 => ?_)
  refine lv_aload_n hx hb dX6_takerOf_3 rfl (lv_at hl 0 rfl) ?_
  refine va_get (D := D) (ci := 5) (v := .int (y 0)) (C := RX6) (T := TX6) (N := 16) hx hb hts inlX6 hown hK hP 0 rfl rfl 0 (by decide) (hts _ mw_152) (fun _ h9 => h9) rfl dX6_takerOf_4 ?_
  refine lv_icmp_ge (tgt := 14) hx hb dX6_takerOf_7 (by decide) (fun c_2 => ?_) (fun c_2 => ?_)
  · have c_2 : (y 0).toInt ≤ z_1.toInt := ti_le c_2
    refine lv_aload_n hx hb dX6_takerOf_14 rfl (lv_at hl 0 rfl) ?_
    refine va_get (D := D) (ci := 5) (v := .int (y 6)) (C := RX6) (T := TX6) (N := 16) hx hb hts inlX6 hown hK hP 0 rfl rfl 6 (by decide) (hts _ mw_154) (fun _ h9 => h9) rfl dX6_takerOf_15 ?_
    refine lv_if_eq (tgt := 33) hx hb dX6_takerOf_18 (by decide) (fun c_3 => ?_) (fun c_3 => ?_)
    · have c_3 : (y 6).toInt = 0 := ti_eq c_3
      have qc_3 : (y 6) = 0 := ti_of (show (y 6).toInt = 0 from by omega)
      refine lv_iconst (v := (-1)) hx hb dX6_takerOf_33 (by decide) ?_
      exact W.iret (v := (-1)) hx hb hr (fun t ht hW => ⟨(-1), rfl, trivial, ht⟩) (fun q h => by cases h) dX6_takerOf_34
    · have c_3 : (y 6).toInt ≠ 0 := ti_ne c_3
      have qc_3 : (y 6) = 1 := ti_of (show (y 6).toInt = 1 from by omega)
      refine lv_aload_n hx hb dX6_takerOf_21 rfl (lv_at hl 0 rfl) ?_
      refine va_get (D := D) (ci := 5) (v := .int (y 0)) (C := RX6) (T := TX6) (N := 16) hx hb hts inlX6 hown hK hP 0 rfl rfl 0 (by decide) (hts _ mw_152) (fun _ h9 => h9) rfl dX6_takerOf_22 ?_
      refine lv_iconst (v := 2) hx hb dX6_takerOf_25 (by decide) ?_
      refine lv_icmp_lt (tgt := 33) hx hb dX6_takerOf_26 (by decide) (fun c_4 => ?_) (fun c_4 => ?_)
      · have c_4 : (y 0).toInt < 2 := ti_lt c_4
        refine lv_iconst (v := (-1)) hx hb dX6_takerOf_33 (by decide) ?_
        exact W.iret (v := (-1)) hx hb hr (fun t ht hW => ⟨(-1), rfl, trivial, ht⟩) (fun q h => by cases h) dX6_takerOf_34
      · have c_4 : 2 ≤ (y 0).toInt := ti_nlt c_4
        refine lv_iconst (v := 0) hx hb dX6_takerOf_29 (by decide) ?_
        refine lv_goto (tgt := 34) hx hb dX6_takerOf_30 (by decide) ?_
        exact W.iret (v := 0) hx hb hr (fun t ht hW => ⟨0, rfl, trivial, ht⟩) (fun q h => by cases h) dX6_takerOf_34
  · have c_2 : z_1.toInt < (y 0).toInt := ti_nle c_2
    refine lv_iload_n hx hb dX6_takerOf_10 rfl (lv_at hl 1 rfl) ?_
    refine lv_iconst (v := 1) hx hb dX6_takerOf_11 (by decide) ?_
    refine lv_iadd hx hb dX6_takerOf_12 ?_
    refine lv_topi (fun z_5 ez_5 => ?_)
    exact W.iret (v := z_5) hx hb hr (fun t ht hW => ⟨z_5, rfl, trivial, ht⟩) (fun q h => by cases h) dX6_takerOf_13
set_option maxHeartbeats 4000000 in
set_option maxRecDepth 100000 in
theorem s_W_layerAt (l : Launch) (D : va_G) (k : Nat → ClassId) (w : Nat → Nat) (y : Nat → Int32) (g : Nat → Nat → Int32) (r : Int32) (d : Int32) (w_h0 : 0 ≤ (y 0).toInt ∧ (y 0).toInt ≤ 10) (w_h2 : 0 ≤ (y 2).toInt ∧ (y 2).toInt ≤ 6) (w_h6 : 0 ≤ (y 6).toInt ∧ (y 6).toInt ≤ 1) (w_hr : 0 ≤ r.toInt ∧ r.toInt ≤ 9) (w_hq : 0 ≤ d.toInt ∧ d.toInt ≤ 5) : Met l yX6_layerAt (Cond.code yX6_layerAt cX6_layerAt 3 (some .int) :: wsL_law) ({ frames := 0, cells := 0, slots := 0, locals := 0 } : Room) (va_Pc [.ref (w 0), .int r, .int d] (pr D k [((w 0), .inr (5, [.int (y 0), .int (y 1), .int (y 2), .int (y 3), .int (y 4), .int (y 5), .int (y 6), .int (y 7), .int (y 8), .int (y 9), .int (y 10), .ref (w 1), .ref (w 2), .ref (w 3), .ref (w 4), .ref (w 5)])), ((w 3), .inl (k 0, 60, .inl (g 3)))])) (vp_Si (fun rr => True)) 0 0 (fun _ => False) := by
  refine Met.ofW (cc := cX6_layerAt) (maxL := 3) (ret := (some .int)) (by decide) rfl ?_
  intro p e s m args below meth c s₁ B hml hv
  obtain ⟨rfl, hP, hK, hN0⟩ := hv
  have hx := B.exec
  have hb := B.bytes
  have hr := B.returns
  have hts : ∀ w ∈ wsL_law, w.before _ s = true := fun w h => atoms_spec (ws := Cond.code yX6_layerAt cX6_layerAt 3 (some .int) :: wsL_law) B.pre w (List.mem_cons_of_mem _ h)
  have hown : s.vm.findClass RX6 = some m.cls := findClass_of_methodNamed B.named
  have hlocks := B.notSynchronized
  have hP : va_P D vwCl [((w 0), .inr (5, [.int (y 0), .int (y 1), .int (y 2), .int (y 3), .int (y 4), .int (y 5), .int (y 6), .int (y 7), .int (y 8), .int (y 9), .int (y 10), .ref (w 1), .ref (w 2), .ref (w 3), .ref (w 4), .ref (w 5)])), ((w 3), .inl (k 0, 60, .inl (g 3)))] s.heap := hP
  have hl := lv_entry ([.ref (w 0), .int r, .int d]) (n := 3) (Nat.le_of_ble_eq_true rfl)
  rw [lg_entry_eq]
  generalize (lg_sl ([.ref (w 0), .int r, .int d]) ++ List.replicate (3 - (lg_sl ([.ref (w 0), .int r, .int d])).length) Slot.unset).toArray = ls at hl ⊢
  have hl : lv_has ls 3 [(0, .ref (w 0)), (1, .int r), (2, .int d)] := hl
  refine lv_aload_n hx hb dX6_layerAt_0 rfl (lv_at hl 0 rfl) ?_
  refine va_get (D := D) (ci := 5) (v := .ref (w 3)) (C := RX6) (T := TX6) (N := 16) hx hb hts inlX6 hown hK hP 0 rfl rfl 13 (by decide) (hts _ mw_60) (fun _ h9 => h9) rfl dX6_layerAt_1 ?_
  refine lv_iload_n hx hb dX6_layerAt_4 rfl (lv_at hl 1 rfl) ?_
  refine lv_bipush (v := 6) hx hb dX6_layerAt_5 (by decide) ?_
  refine lv_imul hx hb dX6_layerAt_7 ?_
  refine lv_topi (fun z_1 ez_1 => ?_)
  have tz_1 : z_1.toInt = r.toInt * 6 := by rw [ez_1]; exact ti_mulc (by decide) (by omega) (by omega)
  refine lv_iload_n hx hb dX6_layerAt_8 rfl (lv_at hl 2 rfl) ?_
  refine lv_iadd hx hb dX6_layerAt_9 ?_
  refine lv_topi (fun z_2 ez_2 => ?_)
  have tz_2 : z_2.toInt = z_1.toInt + d.toInt := by rw [ez_2]; exact ti_add (by omega) (by omega)
  refine va_iald hx hb hK hP 1 0 rfl rfl (vp_in_o (by omega) (by omega)) dX6_layerAt_10 ?_
  refine lv_topi (fun z_3 ez_3 => ?_)
  exact W.iret (v := z_3) hx hb hr (fun t ht hW => ⟨z_3, rfl, trivial, ht⟩) (fun q h => by cases h) dX6_layerAt_11
set_option maxHeartbeats 4000000 in
set_option maxRecDepth 100000 in
theorem s_W_isSound (l : Launch) (D : va_G) (k : Nat → ClassId) (w : Nat → Nat) (y : Nat → Int32) (x : Int32) (w_h0 : 0 ≤ (y 0).toInt ∧ (y 0).toInt ≤ 10) (w_h2 : 0 ≤ (y 2).toInt ∧ (y 2).toInt ≤ 6) (w_h6 : 0 ≤ (y 6).toInt ∧ (y 6).toInt ≤ 1) : Met l yX6_isSound (Cond.code yX6_isSound cX6_isSound 3 (some .boolean) :: wsL_law) ({ frames := 1, cells := 0, slots := 0, locals := 60 } : Room) (va_Pc [.ref (w 0), .int x] (pr D k [((w 0), .inr (5, [.int (y 0), .int (y 1), .int (y 2), .int (y 3), .int (y 4), .int (y 5), .int (y 6), .int (y 7), .int (y 8), .int (y 9), .int (y 10), .ref (w 1), .ref (w 2), .ref (w 3), .ref (w 4), .ref (w 5)]))])) (vp_Si (fun rr => 0 ≤ rr.toInt ∧ rr.toInt ≤ 1)) 0 0 (fun _ => False) := by
  refine Met.ofW (cc := cX6_isSound) (maxL := 3) (ret := (some .boolean)) (by decide) rfl ?_
  intro p e s m args below meth c s₁ B hml hv
  obtain ⟨rfl, hP, hK, hN0⟩ := hv
  have hx := B.exec
  have hb := B.bytes
  have hr := B.returns
  have hts : ∀ w ∈ wsL_law, w.before _ s = true := fun w h => atoms_spec (ws := Cond.code yX6_isSound cX6_isSound 3 (some .boolean) :: wsL_law) B.pre w (List.mem_cons_of_mem _ h)
  have hown : s.vm.findClass RX6 = some m.cls := findClass_of_methodNamed B.named
  have hlocks := B.notSynchronized
  have hP : va_P D vwCl [((w 0), .inr (5, [.int (y 0), .int (y 1), .int (y 2), .int (y 3), .int (y 4), .int (y 5), .int (y 6), .int (y 7), .int (y 8), .int (y 9), .int (y 10), .ref (w 1), .ref (w 2), .ref (w 3), .ref (w 4), .ref (w 5)]))] s.heap := hP
  have hl := lv_entry ([.ref (w 0), .int x]) (n := 3) (Nat.le_of_ble_eq_true rfl)
  rw [lg_entry_eq]
  generalize (lg_sl ([.ref (w 0), .int x]) ++ List.replicate (3 - (lg_sl ([.ref (w 0), .int x])).length) Slot.unset).toArray = ls at hl ⊢
  have hl : lv_has ls 3 [(0, .ref (w 0)), (1, .int x)] := hl
  refine lv_iload_n hx hb dX6_isSound_0 rfl (lv_at hl 1 rfl) ?_
  refine kS_i (As := [.int x]) (rest := []) ⟨hx, hb, hml, hown, hts⟩ (s_L_sortOf l D k x) (gS mw_391 mw_392 mw_254 mw_393) hd_yX1_sortOf rfl rfl ⟨Nat.le_of_ble_eq_true rfl, Nat.le_of_ble_eq_true rfl⟩ hK hN0 (hP.sub [] rfl) rfl hl.1 rfl (Nat.le_of_ble_eq_true rfl) dX6_isSound_1 ⟨Nat.le_of_ble_eq_true rfl, Nat.le_of_ble_eq_true rfl⟩ (fun r_1 hr_1 => ?_)
  have hr_1 : 0 ≤ r_1.toInt ∧ r_1.toInt ≤ 1 := hr_1
  refine lv_iconst (v := 1) hx hb dX6_isSound_4 (by decide) ?_
  refine lv_icmp_ne (tgt := 15) hx hb dX6_isSound_5 (by decide) (fun c_2 => ?_) (fun c_2 => ?_)
  · have c_2 : r_1.toInt ≠ 1 := ti_ne c_2
    have qc_2 : r_1 = 0 := ti_of (show r_1.toInt = 0 from by omega)
    refine lv_aload_n hx hb dX6_isSound_15 rfl (lv_at hl 0 rfl) ?_
    refine va_get (D := D) (ci := 5) (v := .int (y 3)) (C := RX6) (T := TX6) (N := 16) hx hb hts inlX6 hown hK hP 0 rfl rfl 3 (by decide) (hts _ mw_55) (fun _ h9 => h9) rfl dX6_isSound_16 ?_
    refine lv_istore_n (lv' := [(2, .int (y 3)), (0, .ref (w 0)), (1, .int x)]) hx hb dX6_isSound_19 rfl hl (by decide) rfl (fun ls hl => ?_)
    refine lv_iload_n hx hb dX6_isSound_20 rfl (lv_at hl 2 rfl) ?_
    refine kS_i (As := [.int x]) (rest := []) ⟨hx, hb, hml, hown, hts⟩ (s_L_ageOf l D k x) (gS mw_394 mw_395 mw_254 mw_396) hd_yX1_ageOf rfl rfl ⟨Nat.le_of_ble_eq_true rfl, Nat.le_of_ble_eq_true rfl⟩ hK hN0 (hP.sub [] rfl) rfl hl.1 rfl (Nat.le_of_ble_eq_true rfl) dX6_isSound_21 ⟨Nat.le_of_ble_eq_true rfl, Nat.le_of_ble_eq_true rfl⟩ (fun r_3 hr_3 => ?_)
    have hr_3 : 0 ≤ r_3.toInt ∧ r_3.toInt ≤ 127 := hr_3
    refine lv_iload_n hx hb dX6_isSound_24 rfl (lv_at hl 0 rfl) ?_
    refine lv_icmp_gt (tgt := 32) hx hb dX6_isSound_25 (by decide) (fun c_4 => ?_) (fun c_4 => ?_)
    · have c_4 : (y 3).toInt < r_3.toInt := ti_lt c_4
      refine lv_iconst (v := 0) hx hb dX6_isSound_32 (by decide) ?_
      exact W.zret (v := 0) hx hb hr rfl (fun t ht hW => ⟨0, rfl, ⟨by decide, by decide⟩, ht⟩) (fun q h => by cases h) dX6_isSound_33
    · have c_4 : r_3.toInt ≤ (y 3).toInt := ti_nlt c_4
      refine lv_iconst (v := 1) hx hb dX6_isSound_28 (by decide) ?_
      refine lv_goto (tgt := 33) hx hb dX6_isSound_29 (by decide) ?_
      exact W.zret (v := 1) hx hb hr rfl (fun t ht hW => ⟨1, rfl, ⟨by decide, by decide⟩, ht⟩) (fun q h => by cases h) dX6_isSound_33
  · have c_2 : r_1.toInt = 1 := ti_eq c_2
    have qc_2 : r_1 = 1 := ti_of (show r_1.toInt = 1 from by omega)
    refine lv_aload_n hx hb dX6_isSound_8 rfl (lv_at hl 0 rfl) ?_
    refine va_get (D := D) (ci := 5) (v := .int (y 4)) (C := RX6) (T := TX6) (N := 16) hx hb hts inlX6 hown hK hP 0 rfl rfl 4 (by decide) (hts _ mw_56) (fun _ h9 => h9) rfl dX6_isSound_9 ?_
    refine lv_goto (tgt := 19) hx hb dX6_isSound_12 (by decide) ?_
    refine lv_istore_n (lv' := [(2, .int (y 4)), (0, .ref (w 0)), (1, .int x)]) hx hb dX6_isSound_19 rfl hl (by decide) rfl (fun ls hl => ?_)
    refine lv_iload_n hx hb dX6_isSound_20 rfl (lv_at hl 2 rfl) ?_
    refine kS_i (As := [.int x]) (rest := []) ⟨hx, hb, hml, hown, hts⟩ (s_L_ageOf l D k x) (gS mw_394 mw_395 mw_254 mw_396) hd_yX1_ageOf rfl rfl ⟨Nat.le_of_ble_eq_true rfl, Nat.le_of_ble_eq_true rfl⟩ hK hN0 (hP.sub [] rfl) rfl hl.1 rfl (Nat.le_of_ble_eq_true rfl) dX6_isSound_21 ⟨Nat.le_of_ble_eq_true rfl, Nat.le_of_ble_eq_true rfl⟩ (fun r_5 hr_5 => ?_)
    have hr_5 : 0 ≤ r_5.toInt ∧ r_5.toInt ≤ 127 := hr_5
    refine lv_iload_n hx hb dX6_isSound_24 rfl (lv_at hl 0 rfl) ?_
    refine lv_icmp_gt (tgt := 32) hx hb dX6_isSound_25 (by decide) (fun c_6 => ?_) (fun c_6 => ?_)
    · have c_6 : (y 4).toInt < r_5.toInt := ti_lt c_6
      refine lv_iconst (v := 0) hx hb dX6_isSound_32 (by decide) ?_
      exact W.zret (v := 0) hx hb hr rfl (fun t ht hW => ⟨0, rfl, ⟨by decide, by decide⟩, ht⟩) (fun q h => by cases h) dX6_isSound_33
    · have c_6 : r_5.toInt ≤ (y 4).toInt := ti_nlt c_6
      refine lv_iconst (v := 1) hx hb dX6_isSound_28 (by decide) ?_
      refine lv_goto (tgt := 33) hx hb dX6_isSound_29 (by decide) ?_
      exact W.zret (v := 1) hx hb hr rfl (fun t ht hW => ⟨1, rfl, ⟨by decide, by decide⟩, ht⟩) (fun q h => by cases h) dX6_isSound_33
set_option maxHeartbeats 4000000 in
set_option maxRecDepth 100000 in
theorem s_W_soundIn (l : Launch) (D : va_G) (k : Nat → ClassId) (w : Nat → Nat) (y : Nat → Int32) (g : Nat → Nat → Int32) (r : Int32) (w_h0 : 0 ≤ (y 0).toInt ∧ (y 0).toInt ≤ 10) (w_h2 : 0 ≤ (y 2).toInt ∧ (y 2).toInt ≤ 6) (w_h6 : 0 ≤ (y 6).toInt ∧ (y 6).toInt ≤ 1) (w_hd : ∀ j : Nat, 0 ≤ ((g 1) j).toInt ∧ ((g 1) j).toInt ≤ 6) (w_hr : 0 ≤ r.toInt ∧ r.toInt ≤ 9) : Met l yX6_soundIn (Cond.code yX6_soundIn cX6_soundIn 4 (some .int) :: wsL_law) ({ frames := 2, cells := 0, slots := 0, locals := 120 } : Room) (va_Pc [.ref (w 0), .int r] (pr D k [((w 0), .inr (5, [.int (y 0), .int (y 1), .int (y 2), .int (y 3), .int (y 4), .int (y 5), .int (y 6), .int (y 7), .int (y 8), .int (y 9), .int (y 10), .ref (w 1), .ref (w 2), .ref (w 3), .ref (w 4), .ref (w 5)])), ((w 1), .inl (k 0, 10, .inl (g 1))), ((w 3), .inl (k 0, 60, .inl (g 3)))])) (vp_Si (fun rr => True)) 0 0 (fun _ => False) := by
  refine Met.ofW (cc := cX6_soundIn) (maxL := 4) (ret := (some .int)) (by decide) rfl ?_
  intro p e s m args below meth c s₁ B hml hv
  obtain ⟨rfl, hP, hK, hN0⟩ := hv
  have hx := B.exec
  have hb := B.bytes
  have hr := B.returns
  have hts : ∀ w ∈ wsL_law, w.before _ s = true := fun w h => atoms_spec (ws := Cond.code yX6_soundIn cX6_soundIn 4 (some .int) :: wsL_law) B.pre w (List.mem_cons_of_mem _ h)
  have hown : s.vm.findClass RX6 = some m.cls := findClass_of_methodNamed B.named
  have hlocks := B.notSynchronized
  have hP : va_P D vwCl [((w 0), .inr (5, [.int (y 0), .int (y 1), .int (y 2), .int (y 3), .int (y 4), .int (y 5), .int (y 6), .int (y 7), .int (y 8), .int (y 9), .int (y 10), .ref (w 1), .ref (w 2), .ref (w 3), .ref (w 4), .ref (w 5)])), ((w 1), .inl (k 0, 10, .inl (g 1))), ((w 3), .inl (k 0, 60, .inl (g 3)))] s.heap := hP
  have hl := lv_entry ([.ref (w 0), .int r]) (n := 4) (Nat.le_of_ble_eq_true rfl)
  rw [lg_entry_eq]
  generalize (lg_sl ([.ref (w 0), .int r]) ++ List.replicate (4 - (lg_sl ([.ref (w 0), .int r])).length) Slot.unset).toArray = ls at hl ⊢
  have hl : lv_has ls 4 [(0, .ref (w 0)), (1, .int r)] := hl
  refine lv_iconst (v := 0) hx hb dX6_soundIn_0 (by decide) ?_
  refine lv_istore_n (lv' := [(2, .int 0), (0, .ref (w 0)), (1, .int r)]) hx hb dX6_soundIn_1 rfl hl (by decide) rfl (fun ls hl => ?_)
  refine lv_iconst (v := 0) hx hb dX6_soundIn_2 (by decide) ?_
  refine lv_istore_n (lv' := [(3, .int 0), (2, .int 0), (0, .ref (w 0)), (1, .int r)]) hx hb dX6_soundIn_3 rfl hl (by decide) rfl (fun ls hl => ?_)
  refine W_loop (σ := Int32 × Int32) (fun xx H locs ls => (0 ≤ xx.1.toInt ∧ xx.1.toInt ≤ 6) ∧ va_P D vwCl [((w 0), .inr (5, [.int (y 0), .int (y 1), .int (y 2), .int (y 3), .int (y 4), .int (y 5), .int (y 6), .int (y 7), .int (y 8), .int (y 9), .int (y 10), .ref (w 1), .ref (w 2), .ref (w 3), .ref (w 4), .ref (w 5)])), ((w 1), .inl (k 0, 10, .inl (g 1))), ((w 3), .inl (k 0, 60, .inl (g 3)))] H ∧ H = s.heap ∧ locs = [] ∧ lv_has ls 4 [(3, .int xx.1), (2, .int xx.2), (0, .ref (w 0)), (1, .int r)]) (fun xx => (6 - xx.1.toInt).toNat) ?_ (0, 0) _ _ ls ⟨(show 0 ≤ (0 : Int32).toInt ∧ (0 : Int32).toInt ≤ 6 from ⟨by decide, by decide⟩), hP.sub [0, 1, 2] rfl, rfl, rfl, lv_sub hl [0, 1, 2, 3] rfl⟩
  intro xx H locs ls hI ih4
  obtain ⟨i_1, y_2⟩ := xx
  obtain ⟨h_3, hP, rfl, rfl, hl⟩ := hI
  have h_3 : 0 ≤ i_1.toInt ∧ i_1.toInt ≤ 6 := h_3
  obtain ⟨h_3a, h_3b⟩ := h_3
  have hP : va_P D vwCl [((w 0), .inr (5, [.int (y 0), .int (y 1), .int (y 2), .int (y 3), .int (y 4), .int (y 5), .int (y 6), .int (y 7), .int (y 8), .int (y 9), .int (y 10), .ref (w 1), .ref (w 2), .ref (w 3), .ref (w 4), .ref (w 5)])), ((w 1), .inl (k 0, 10, .inl (g 1))), ((w 3), .inl (k 0, 60, .inl (g 3)))] s.heap := hP
  have hl : lv_has ls 4 [(3, .int i_1), (2, .int y_2), (0, .ref (w 0)), (1, .int r)] := hl
  refine lv_iload_n hx hb dX6_soundIn_4 rfl (lv_at hl 0 rfl) ?_
  refine lv_aload_n hx hb dX6_soundIn_5 rfl (lv_at hl 2 rfl) ?_
  refine va_get (D := D) (ci := 5) (v := .ref (w 1)) (C := RX6) (T := TX6) (N := 16) hx hb hts inlX6 hown hK hP 0 rfl rfl 11 (by decide) (hts _ mw_58) (fun _ h9 => h9) rfl dX6_soundIn_6 ?_
  refine lv_iload_n hx hb dX6_soundIn_9 rfl (lv_at hl 3 rfl) ?_
  refine va_iald hx hb hK hP 1 0 rfl rfl (vp_in_o (by omega) (by omega)) dX6_soundIn_10 ?_
  refine lv_topi (fun z_4 ez_4 => ?_)
  have bz_4 : 0 ≤ z_4.toInt ∧ z_4.toInt ≤ 6 := by rw [ez_4]; exact w_hd _
  refine lv_icmp_ge (tgt := 41) hx hb dX6_soundIn_11 (by decide) (fun c_5 => ?_) (fun c_5 => ?_)
  · have c_5 : z_4.toInt ≤ i_1.toInt := ti_le c_5
    refine lv_iload_n hx hb dX6_soundIn_41 rfl (lv_at hl 1 rfl) ?_
    exact W.iret (v := y_2) hx hb hr (fun t ht hW => ⟨y_2, rfl, trivial, ht⟩) (fun q h => by cases h) dX6_soundIn_42
  · have c_5 : i_1.toInt < z_4.toInt := ti_nle c_5
    refine lv_iload_n hx hb dX6_soundIn_14 rfl (lv_at hl 1 rfl) ?_
    refine lv_aload_n hx hb dX6_soundIn_15 rfl (lv_at hl 2 rfl) ?_
    refine lv_aload_n hx hb dX6_soundIn_16 rfl (lv_at hl 2 rfl) ?_
    refine lv_iload_n hx hb dX6_soundIn_17 rfl (lv_at hl 3 rfl) ?_
    refine lv_iload_n hx hb dX6_soundIn_18 rfl (lv_at hl 0 rfl) ?_
    refine kV_i (q0 := 0) (As := [.int r, .int i_1]) (rest := [.ref (w 0), .int y_2]) ⟨hx, hb, hml, hown, hts⟩ (s_W_layerAt l D k _ y g r i_1 (show 0 ≤ (y 0).toInt ∧ (y 0).toInt ≤ 10 from ⟨by omega, by omega⟩) (show 0 ≤ (y 2).toInt ∧ (y 2).toInt ≤ 6 from ⟨by omega, by omega⟩) (show 0 ≤ (y 6).toInt ∧ (y 6).toInt ≤ 1 from ⟨by omega, by omega⟩) (show 0 ≤ r.toInt ∧ r.toInt ≤ 9 from ⟨by omega, by omega⟩) (show 0 ≤ i_1.toInt ∧ i_1.toInt ≤ 5 from ⟨by omega, by omega⟩)) (gV mw_383 mw_384 mw_385 mw_19 mw_386) hd_yX6_layerAt rfl rfl ⟨Nat.le_of_ble_eq_true rfl, Nat.le_of_ble_eq_true rfl⟩ hK hN0 (hP.sub [0, 2] rfl) rfl rfl rfl rfl hl.1 rfl (Nat.le_of_ble_eq_true rfl) dX6_soundIn_19 ⟨Nat.le_of_ble_eq_true rfl, Nat.le_of_ble_eq_true rfl⟩ (fun r_6 hr_6 => ?_)
    refine kV_i (q0 := 0) (As := [.int r_6]) (rest := [.int y_2]) ⟨hx, hb, hml, hown, hts⟩ (s_W_isSound l D k _ y r_6 (show 0 ≤ (y 0).toInt ∧ (y 0).toInt ≤ 10 from ⟨by omega, by omega⟩) (show 0 ≤ (y 2).toInt ∧ (y 2).toInt ≤ 6 from ⟨by omega, by omega⟩) (show 0 ≤ (y 6).toInt ∧ (y 6).toInt ≤ 1 from ⟨by omega, by omega⟩)) (gV mw_387 mw_388 mw_389 mw_19 mw_390) hd_yX6_isSound rfl rfl ⟨Nat.le_of_ble_eq_true rfl, Nat.le_of_ble_eq_true rfl⟩ hK hN0 (hP.sub [0] rfl) rfl rfl rfl rfl hl.1 rfl (Nat.le_of_ble_eq_true rfl) dX6_soundIn_22 ⟨Nat.le_of_ble_eq_true rfl, Nat.le_of_ble_eq_true rfl⟩ (fun r_7 hr_7 => ?_)
    have hr_7 : 0 ≤ r_7.toInt ∧ r_7.toInt ≤ 1 := hr_7
    refine lv_if_eq (tgt := 32) hx hb dX6_soundIn_25 (by decide) (fun c_8 => ?_) (fun c_8 => ?_)
    · have c_8 : r_7.toInt = 0 := ti_eq c_8
      have qc_8 : r_7 = 0 := ti_of (show r_7.toInt = 0 from by omega)
      refine lv_iconst (v := 0) hx hb dX6_soundIn_32 (by decide) ?_
      refine lv_iadd hx hb dX6_soundIn_33 ?_
      refine lv_ni (v := y_2) (iadd_0 _) ?_
      refine lv_istore_n (lv' := [(2, .int y_2), (3, .int i_1), (0, .ref (w 0)), (1, .int r)]) hx hb dX6_soundIn_34 rfl hl (by decide) rfl (fun ls hl => ?_)
      obtain ⟨z_9, ez_9⟩ : ∃ y : Int32, y = i_1 + 1 := ⟨_, rfl⟩
      have tz_9 : z_9.toInt = i_1.toInt + 1 := by rw [ez_9]; exact ti_addc (by decide) (by omega) (by omega)
      refine lv_iinc (v := z_9) (lv' := [(3, .int z_9), (2, .int y_2), (0, .ref (w 0)), (1, .int r)]) hx hb dX6_soundIn_35 hl (k := 1) rfl (ez_9.symm) (by decide) rfl (fun ls hl => ?_)
      refine lv_goto (tgt := 4) hx hb dX6_soundIn_38 (by decide) ?_
      exact ih4 (z_9, y_2) _ _ ls (by show (6 - z_9.toInt).toNat < (6 - i_1.toInt).toNat; omega) ⟨(show 0 ≤ z_9.toInt ∧ z_9.toInt ≤ 6 from ⟨by omega, by omega⟩), hP.sub [0, 1, 2] rfl, rfl, rfl, lv_sub hl [0, 1, 2, 3] rfl⟩
    · have c_8 : r_7.toInt ≠ 0 := ti_ne c_8
      have qc_8 : r_7 = 1 := ti_of (show r_7.toInt = 1 from by omega)
      refine lv_iconst (v := 1) hx hb dX6_soundIn_28 (by decide) ?_
      refine lv_goto (tgt := 33) hx hb dX6_soundIn_29 (by decide) ?_
      refine lv_iadd hx hb dX6_soundIn_33 ?_
      refine lv_topi (fun z_10 ez_10 => ?_)
      refine lv_istore_n (lv' := [(2, .int z_10), (3, .int i_1), (0, .ref (w 0)), (1, .int r)]) hx hb dX6_soundIn_34 rfl hl (by decide) rfl (fun ls hl => ?_)
      obtain ⟨z_11, ez_11⟩ : ∃ y : Int32, y = i_1 + 1 := ⟨_, rfl⟩
      have tz_11 : z_11.toInt = i_1.toInt + 1 := by rw [ez_11]; exact ti_addc (by decide) (by omega) (by omega)
      refine lv_iinc (v := z_11) (lv' := [(3, .int z_11), (2, .int z_10), (0, .ref (w 0)), (1, .int r)]) hx hb dX6_soundIn_35 hl (k := 1) rfl (ez_11.symm) (by decide) rfl (fun ls hl => ?_)
      refine lv_goto (tgt := 4) hx hb dX6_soundIn_38 (by decide) ?_
      exact ih4 (z_11, z_10) _ _ ls (by show (6 - z_11.toInt).toNat < (6 - i_1.toInt).toNat; omega) ⟨(show 0 ≤ z_11.toInt ∧ z_11.toInt ≤ 6 from ⟨by omega, by omega⟩), hP.sub [0, 1, 2] rfl, rfl, rfl, lv_sub hl [0, 1, 2, 3] rfl⟩
set_option maxHeartbeats 4000000 in
set_option maxRecDepth 100000 in
theorem s_W_miceOn (l : Launch) (D : va_G) (k : Nat → ClassId) (w : Nat → Nat) (y : Nat → Int32) (g : Nat → Nat → Int32) (r : Int32) (w_h0 : 0 ≤ (y 0).toInt ∧ (y 0).toInt ≤ 10) (w_h2 : 0 ≤ (y 2).toInt ∧ (y 2).toInt ≤ 6) (w_h6 : 0 ≤ (y 6).toInt ∧ (y 6).toInt ≤ 1) (w_hd : ∀ j : Nat, 0 ≤ ((g 1) j).toInt ∧ ((g 1) j).toInt ≤ 6) (w_hr : 0 ≤ r.toInt ∧ r.toInt ≤ 9) : Met l yX6_miceOn (Cond.code yX6_miceOn cX6_miceOn 4 (some .int) :: wsL_law) ({ frames := 1, cells := 0, slots := 0, locals := 60 } : Room) (va_Pc [.ref (w 0), .int r] (pr D k [((w 0), .inr (5, [.int (y 0), .int (y 1), .int (y 2), .int (y 3), .int (y 4), .int (y 5), .int (y 6), .int (y 7), .int (y 8), .int (y 9), .int (y 10), .ref (w 1), .ref (w 2), .ref (w 3), .ref (w 4), .ref (w 5)])), ((w 1), .inl (k 0, 10, .inl (g 1))), ((w 3), .inl (k 0, 60, .inl (g 3)))])) (vp_Si (fun rr => True)) 0 0 (fun _ => False) := by
  refine Met.ofW (cc := cX6_miceOn) (maxL := 4) (ret := (some .int)) (by decide) rfl ?_
  intro p e s m args below meth c s₁ B hml hv
  obtain ⟨rfl, hP, hK, hN0⟩ := hv
  have hx := B.exec
  have hb := B.bytes
  have hr := B.returns
  have hts : ∀ w ∈ wsL_law, w.before _ s = true := fun w h => atoms_spec (ws := Cond.code yX6_miceOn cX6_miceOn 4 (some .int) :: wsL_law) B.pre w (List.mem_cons_of_mem _ h)
  have hown : s.vm.findClass RX6 = some m.cls := findClass_of_methodNamed B.named
  have hlocks := B.notSynchronized
  have hP : va_P D vwCl [((w 0), .inr (5, [.int (y 0), .int (y 1), .int (y 2), .int (y 3), .int (y 4), .int (y 5), .int (y 6), .int (y 7), .int (y 8), .int (y 9), .int (y 10), .ref (w 1), .ref (w 2), .ref (w 3), .ref (w 4), .ref (w 5)])), ((w 1), .inl (k 0, 10, .inl (g 1))), ((w 3), .inl (k 0, 60, .inl (g 3)))] s.heap := hP
  have hl := lv_entry ([.ref (w 0), .int r]) (n := 4) (Nat.le_of_ble_eq_true rfl)
  rw [lg_entry_eq]
  generalize (lg_sl ([.ref (w 0), .int r]) ++ List.replicate (4 - (lg_sl ([.ref (w 0), .int r])).length) Slot.unset).toArray = ls at hl ⊢
  have hl : lv_has ls 4 [(0, .ref (w 0)), (1, .int r)] := hl
  refine lv_iconst (v := 0) hx hb dX6_miceOn_0 (by decide) ?_
  refine lv_istore_n (lv' := [(2, .int 0), (0, .ref (w 0)), (1, .int r)]) hx hb dX6_miceOn_1 rfl hl (by decide) rfl (fun ls hl => ?_)
  refine lv_iconst (v := 0) hx hb dX6_miceOn_2 (by decide) ?_
  refine lv_istore_n (lv' := [(3, .int 0), (2, .int 0), (0, .ref (w 0)), (1, .int r)]) hx hb dX6_miceOn_3 rfl hl (by decide) rfl (fun ls hl => ?_)
  refine W_loop (σ := Int32 × Int32) (fun xx H locs ls => (0 ≤ xx.1.toInt ∧ xx.1.toInt ≤ 6) ∧ va_P D vwCl [((w 0), .inr (5, [.int (y 0), .int (y 1), .int (y 2), .int (y 3), .int (y 4), .int (y 5), .int (y 6), .int (y 7), .int (y 8), .int (y 9), .int (y 10), .ref (w 1), .ref (w 2), .ref (w 3), .ref (w 4), .ref (w 5)])), ((w 1), .inl (k 0, 10, .inl (g 1))), ((w 3), .inl (k 0, 60, .inl (g 3)))] H ∧ H = s.heap ∧ locs = [] ∧ lv_has ls 4 [(3, .int xx.1), (2, .int xx.2), (0, .ref (w 0)), (1, .int r)]) (fun xx => (6 - xx.1.toInt).toNat) ?_ (0, 0) _ _ ls ⟨(show 0 ≤ (0 : Int32).toInt ∧ (0 : Int32).toInt ≤ 6 from ⟨by decide, by decide⟩), hP.sub [0, 1, 2] rfl, rfl, rfl, lv_sub hl [0, 1, 2, 3] rfl⟩
  intro xx H locs ls hI ih4
  obtain ⟨i_1, y_2⟩ := xx
  obtain ⟨h_3, hP, rfl, rfl, hl⟩ := hI
  have h_3 : 0 ≤ i_1.toInt ∧ i_1.toInt ≤ 6 := h_3
  obtain ⟨h_3a, h_3b⟩ := h_3
  have hP : va_P D vwCl [((w 0), .inr (5, [.int (y 0), .int (y 1), .int (y 2), .int (y 3), .int (y 4), .int (y 5), .int (y 6), .int (y 7), .int (y 8), .int (y 9), .int (y 10), .ref (w 1), .ref (w 2), .ref (w 3), .ref (w 4), .ref (w 5)])), ((w 1), .inl (k 0, 10, .inl (g 1))), ((w 3), .inl (k 0, 60, .inl (g 3)))] s.heap := hP
  have hl : lv_has ls 4 [(3, .int i_1), (2, .int y_2), (0, .ref (w 0)), (1, .int r)] := hl
  refine lv_iload_n hx hb dX6_miceOn_4 rfl (lv_at hl 0 rfl) ?_
  refine lv_aload_n hx hb dX6_miceOn_5 rfl (lv_at hl 2 rfl) ?_
  refine va_get (D := D) (ci := 5) (v := .ref (w 1)) (C := RX6) (T := TX6) (N := 16) hx hb hts inlX6 hown hK hP 0 rfl rfl 11 (by decide) (hts _ mw_58) (fun _ h9 => h9) rfl dX6_miceOn_6 ?_
  refine lv_iload_n hx hb dX6_miceOn_9 rfl (lv_at hl 3 rfl) ?_
  refine va_iald hx hb hK hP 1 0 rfl rfl (vp_in_o (by omega) (by omega)) dX6_miceOn_10 ?_
  refine lv_topi (fun z_4 ez_4 => ?_)
  have bz_4 : 0 ≤ z_4.toInt ∧ z_4.toInt ≤ 6 := by rw [ez_4]; exact w_hd _
  refine lv_icmp_ge (tgt := 32) hx hb dX6_miceOn_11 (by decide) (fun c_5 => ?_) (fun c_5 => ?_)
  · have c_5 : z_4.toInt ≤ i_1.toInt := ti_le c_5
    refine lv_iload_n hx hb dX6_miceOn_32 rfl (lv_at hl 1 rfl) ?_
    exact W.iret (v := y_2) hx hb hr (fun t ht hW => ⟨y_2, rfl, trivial, ht⟩) (fun q h => by cases h) dX6_miceOn_33
  · have c_5 : i_1.toInt < z_4.toInt := ti_nle c_5
    refine lv_iload_n hx hb dX6_miceOn_14 rfl (lv_at hl 1 rfl) ?_
    refine lv_aload_n hx hb dX6_miceOn_15 rfl (lv_at hl 2 rfl) ?_
    refine lv_iload_n hx hb dX6_miceOn_16 rfl (lv_at hl 3 rfl) ?_
    refine lv_iload_n hx hb dX6_miceOn_17 rfl (lv_at hl 0 rfl) ?_
    refine kV_i (q0 := 0) (As := [.int r, .int i_1]) (rest := [.int y_2]) ⟨hx, hb, hml, hown, hts⟩ (s_W_layerAt l D k _ y g r i_1 (show 0 ≤ (y 0).toInt ∧ (y 0).toInt ≤ 10 from ⟨by omega, by omega⟩) (show 0 ≤ (y 2).toInt ∧ (y 2).toInt ≤ 6 from ⟨by omega, by omega⟩) (show 0 ≤ (y 6).toInt ∧ (y 6).toInt ≤ 1 from ⟨by omega, by omega⟩) (show 0 ≤ r.toInt ∧ r.toInt ≤ 9 from ⟨by omega, by omega⟩) (show 0 ≤ i_1.toInt ∧ i_1.toInt ≤ 5 from ⟨by omega, by omega⟩)) (gV mw_383 mw_384 mw_385 mw_19 mw_386) hd_yX6_layerAt rfl rfl ⟨Nat.le_of_ble_eq_true rfl, Nat.le_of_ble_eq_true rfl⟩ hK hN0 (hP.sub [0, 2] rfl) rfl rfl rfl rfl hl.1 rfl (Nat.le_of_ble_eq_true rfl) dX6_miceOn_18 ⟨Nat.le_of_ble_eq_true rfl, Nat.le_of_ble_eq_true rfl⟩ (fun r_6 hr_6 => ?_)
    refine kS_i (As := [.int r_6]) (rest := [.int y_2]) ⟨hx, hb, hml, hown, hts⟩ (s_L_miceOf l D k r_6) (gS mw_402 mw_403 mw_254 mw_404) hd_yX1_miceOf rfl rfl ⟨Nat.le_of_ble_eq_true rfl, Nat.le_of_ble_eq_true rfl⟩ hK hN0 (hP.sub [] rfl) rfl hl.1 rfl (Nat.le_of_ble_eq_true rfl) dX6_miceOn_21 ⟨Nat.le_of_ble_eq_true rfl, Nat.le_of_ble_eq_true rfl⟩ (fun r_7 hr_7 => ?_)
    have hr_7 : 0 ≤ r_7.toInt ∧ r_7.toInt ≤ 127 := hr_7
    refine lv_iadd hx hb dX6_miceOn_24 ?_
    refine lv_topi (fun z_8 ez_8 => ?_)
    refine lv_istore_n (lv' := [(2, .int z_8), (3, .int i_1), (0, .ref (w 0)), (1, .int r)]) hx hb dX6_miceOn_25 rfl hl (by decide) rfl (fun ls hl => ?_)
    obtain ⟨z_9, ez_9⟩ : ∃ y : Int32, y = i_1 + 1 := ⟨_, rfl⟩
    have tz_9 : z_9.toInt = i_1.toInt + 1 := by rw [ez_9]; exact ti_addc (by decide) (by omega) (by omega)
    refine lv_iinc (v := z_9) (lv' := [(3, .int z_9), (2, .int z_8), (0, .ref (w 0)), (1, .int r)]) hx hb dX6_miceOn_26 hl (k := 1) rfl (ez_9.symm) (by decide) rfl (fun ls hl => ?_)
    refine lv_goto (tgt := 4) hx hb dX6_miceOn_29 (by decide) ?_
    exact ih4 (z_9, z_8) _ _ ls (by show (6 - z_9.toInt).toNat < (6 - i_1.toInt).toNat; omega) ⟨(show 0 ≤ z_9.toInt ∧ z_9.toInt ≤ 6 from ⟨by omega, by omega⟩), hP.sub [0, 1, 2] rfl, rfl, rfl, lv_sub hl [0, 1, 2, 3] rfl⟩
set_option maxHeartbeats 4000000 in
set_option maxRecDepth 100000 in
theorem s_W_sparksOn (l : Launch) (D : va_G) (k : Nat → ClassId) (w : Nat → Nat) (y : Nat → Int32) (g : Nat → Nat → Int32) (r : Int32) (w_h0 : 0 ≤ (y 0).toInt ∧ (y 0).toInt ≤ 10) (w_h2 : 0 ≤ (y 2).toInt ∧ (y 2).toInt ≤ 6) (w_h6 : 0 ≤ (y 6).toInt ∧ (y 6).toInt ≤ 1) (w_hd : ∀ j : Nat, 0 ≤ ((g 1) j).toInt ∧ ((g 1) j).toInt ≤ 6) (w_hr : 0 ≤ r.toInt ∧ r.toInt ≤ 9) : Met l yX6_sparksOn (Cond.code yX6_sparksOn cX6_sparksOn 4 (some .int) :: wsL_law) ({ frames := 1, cells := 0, slots := 0, locals := 60 } : Room) (va_Pc [.ref (w 0), .int r] (pr D k [((w 0), .inr (5, [.int (y 0), .int (y 1), .int (y 2), .int (y 3), .int (y 4), .int (y 5), .int (y 6), .int (y 7), .int (y 8), .int (y 9), .int (y 10), .ref (w 1), .ref (w 2), .ref (w 3), .ref (w 4), .ref (w 5)])), ((w 1), .inl (k 0, 10, .inl (g 1))), ((w 3), .inl (k 0, 60, .inl (g 3)))])) (vp_Si (fun rr => True)) 0 0 (fun _ => False) := by
  refine Met.ofW (cc := cX6_sparksOn) (maxL := 4) (ret := (some .int)) (by decide) rfl ?_
  intro p e s m args below meth c s₁ B hml hv
  obtain ⟨rfl, hP, hK, hN0⟩ := hv
  have hx := B.exec
  have hb := B.bytes
  have hr := B.returns
  have hts : ∀ w ∈ wsL_law, w.before _ s = true := fun w h => atoms_spec (ws := Cond.code yX6_sparksOn cX6_sparksOn 4 (some .int) :: wsL_law) B.pre w (List.mem_cons_of_mem _ h)
  have hown : s.vm.findClass RX6 = some m.cls := findClass_of_methodNamed B.named
  have hlocks := B.notSynchronized
  have hP : va_P D vwCl [((w 0), .inr (5, [.int (y 0), .int (y 1), .int (y 2), .int (y 3), .int (y 4), .int (y 5), .int (y 6), .int (y 7), .int (y 8), .int (y 9), .int (y 10), .ref (w 1), .ref (w 2), .ref (w 3), .ref (w 4), .ref (w 5)])), ((w 1), .inl (k 0, 10, .inl (g 1))), ((w 3), .inl (k 0, 60, .inl (g 3)))] s.heap := hP
  have hl := lv_entry ([.ref (w 0), .int r]) (n := 4) (Nat.le_of_ble_eq_true rfl)
  rw [lg_entry_eq]
  generalize (lg_sl ([.ref (w 0), .int r]) ++ List.replicate (4 - (lg_sl ([.ref (w 0), .int r])).length) Slot.unset).toArray = ls at hl ⊢
  have hl : lv_has ls 4 [(0, .ref (w 0)), (1, .int r)] := hl
  refine lv_iconst (v := 0) hx hb dX6_sparksOn_0 (by decide) ?_
  refine lv_istore_n (lv' := [(2, .int 0), (0, .ref (w 0)), (1, .int r)]) hx hb dX6_sparksOn_1 rfl hl (by decide) rfl (fun ls hl => ?_)
  refine lv_iconst (v := 0) hx hb dX6_sparksOn_2 (by decide) ?_
  refine lv_istore_n (lv' := [(3, .int 0), (2, .int 0), (0, .ref (w 0)), (1, .int r)]) hx hb dX6_sparksOn_3 rfl hl (by decide) rfl (fun ls hl => ?_)
  refine W_loop (σ := Int32 × Int32) (fun xx H locs ls => (0 ≤ xx.1.toInt ∧ xx.1.toInt ≤ 6) ∧ va_P D vwCl [((w 0), .inr (5, [.int (y 0), .int (y 1), .int (y 2), .int (y 3), .int (y 4), .int (y 5), .int (y 6), .int (y 7), .int (y 8), .int (y 9), .int (y 10), .ref (w 1), .ref (w 2), .ref (w 3), .ref (w 4), .ref (w 5)])), ((w 1), .inl (k 0, 10, .inl (g 1))), ((w 3), .inl (k 0, 60, .inl (g 3)))] H ∧ H = s.heap ∧ locs = [] ∧ lv_has ls 4 [(3, .int xx.1), (2, .int xx.2), (0, .ref (w 0)), (1, .int r)]) (fun xx => (6 - xx.1.toInt).toNat) ?_ (0, 0) _ _ ls ⟨(show 0 ≤ (0 : Int32).toInt ∧ (0 : Int32).toInt ≤ 6 from ⟨by decide, by decide⟩), hP.sub [0, 1, 2] rfl, rfl, rfl, lv_sub hl [0, 1, 2, 3] rfl⟩
  intro xx H locs ls hI ih4
  obtain ⟨i_1, y_2⟩ := xx
  obtain ⟨h_3, hP, rfl, rfl, hl⟩ := hI
  have h_3 : 0 ≤ i_1.toInt ∧ i_1.toInt ≤ 6 := h_3
  obtain ⟨h_3a, h_3b⟩ := h_3
  have hP : va_P D vwCl [((w 0), .inr (5, [.int (y 0), .int (y 1), .int (y 2), .int (y 3), .int (y 4), .int (y 5), .int (y 6), .int (y 7), .int (y 8), .int (y 9), .int (y 10), .ref (w 1), .ref (w 2), .ref (w 3), .ref (w 4), .ref (w 5)])), ((w 1), .inl (k 0, 10, .inl (g 1))), ((w 3), .inl (k 0, 60, .inl (g 3)))] s.heap := hP
  have hl : lv_has ls 4 [(3, .int i_1), (2, .int y_2), (0, .ref (w 0)), (1, .int r)] := hl
  refine lv_iload_n hx hb dX6_sparksOn_4 rfl (lv_at hl 0 rfl) ?_
  refine lv_aload_n hx hb dX6_sparksOn_5 rfl (lv_at hl 2 rfl) ?_
  refine va_get (D := D) (ci := 5) (v := .ref (w 1)) (C := RX6) (T := TX6) (N := 16) hx hb hts inlX6 hown hK hP 0 rfl rfl 11 (by decide) (hts _ mw_58) (fun _ h9 => h9) rfl dX6_sparksOn_6 ?_
  refine lv_iload_n hx hb dX6_sparksOn_9 rfl (lv_at hl 3 rfl) ?_
  refine va_iald hx hb hK hP 1 0 rfl rfl (vp_in_o (by omega) (by omega)) dX6_sparksOn_10 ?_
  refine lv_topi (fun z_4 ez_4 => ?_)
  have bz_4 : 0 ≤ z_4.toInt ∧ z_4.toInt ≤ 6 := by rw [ez_4]; exact w_hd _
  refine lv_icmp_ge (tgt := 40) hx hb dX6_sparksOn_11 (by decide) (fun c_5 => ?_) (fun c_5 => ?_)
  · have c_5 : z_4.toInt ≤ i_1.toInt := ti_le c_5
    refine lv_iload_n hx hb dX6_sparksOn_40 rfl (lv_at hl 1 rfl) ?_
    exact W.iret (v := y_2) hx hb hr (fun t ht hW => ⟨y_2, rfl, trivial, ht⟩) (fun q h => by cases h) dX6_sparksOn_41
  · have c_5 : i_1.toInt < z_4.toInt := ti_nle c_5
    refine lv_iload_n hx hb dX6_sparksOn_14 rfl (lv_at hl 1 rfl) ?_
    refine lv_aload_n hx hb dX6_sparksOn_15 rfl (lv_at hl 2 rfl) ?_
    refine lv_iload_n hx hb dX6_sparksOn_16 rfl (lv_at hl 3 rfl) ?_
    refine lv_iload_n hx hb dX6_sparksOn_17 rfl (lv_at hl 0 rfl) ?_
    refine kV_i (q0 := 0) (As := [.int r, .int i_1]) (rest := [.int y_2]) ⟨hx, hb, hml, hown, hts⟩ (s_W_layerAt l D k _ y g r i_1 (show 0 ≤ (y 0).toInt ∧ (y 0).toInt ≤ 10 from ⟨by omega, by omega⟩) (show 0 ≤ (y 2).toInt ∧ (y 2).toInt ≤ 6 from ⟨by omega, by omega⟩) (show 0 ≤ (y 6).toInt ∧ (y 6).toInt ≤ 1 from ⟨by omega, by omega⟩) (show 0 ≤ r.toInt ∧ r.toInt ≤ 9 from ⟨by omega, by omega⟩) (show 0 ≤ i_1.toInt ∧ i_1.toInt ≤ 5 from ⟨by omega, by omega⟩)) (gV mw_383 mw_384 mw_385 mw_19 mw_386) hd_yX6_layerAt rfl rfl ⟨Nat.le_of_ble_eq_true rfl, Nat.le_of_ble_eq_true rfl⟩ hK hN0 (hP.sub [0, 2] rfl) rfl rfl rfl rfl hl.1 rfl (Nat.le_of_ble_eq_true rfl) dX6_sparksOn_18 ⟨Nat.le_of_ble_eq_true rfl, Nat.le_of_ble_eq_true rfl⟩ (fun r_6 hr_6 => ?_)
    refine kS_i (As := [.int r_6]) (rest := [.int y_2]) ⟨hx, hb, hml, hown, hts⟩ (s_L_hasSpark l D k r_6) (gS mw_698 mw_449 mw_254 mw_450) hd_yX1_hasSpark rfl rfl ⟨Nat.le_of_ble_eq_true rfl, Nat.le_of_ble_eq_true rfl⟩ hK hN0 (hP.sub [] rfl) rfl hl.1 rfl (Nat.le_of_ble_eq_true rfl) dX6_sparksOn_21 ⟨Nat.le_of_ble_eq_true rfl, Nat.le_of_ble_eq_true rfl⟩ (fun r_7 hr_7 => ?_)
    have hr_7 : 0 ≤ r_7.toInt ∧ r_7.toInt ≤ 1 := hr_7
    refine lv_if_eq (tgt := 31) hx hb dX6_sparksOn_24 (by decide) (fun c_8 => ?_) (fun c_8 => ?_)
    · have c_8 : r_7.toInt = 0 := ti_eq c_8
      have qc_8 : r_7 = 0 := ti_of (show r_7.toInt = 0 from by omega)
      refine lv_iconst (v := 0) hx hb dX6_sparksOn_31 (by decide) ?_
      refine lv_iadd hx hb dX6_sparksOn_32 ?_
      refine lv_ni (v := y_2) (iadd_0 _) ?_
      refine lv_istore_n (lv' := [(2, .int y_2), (3, .int i_1), (0, .ref (w 0)), (1, .int r)]) hx hb dX6_sparksOn_33 rfl hl (by decide) rfl (fun ls hl => ?_)
      obtain ⟨z_9, ez_9⟩ : ∃ y : Int32, y = i_1 + 1 := ⟨_, rfl⟩
      have tz_9 : z_9.toInt = i_1.toInt + 1 := by rw [ez_9]; exact ti_addc (by decide) (by omega) (by omega)
      refine lv_iinc (v := z_9) (lv' := [(3, .int z_9), (2, .int y_2), (0, .ref (w 0)), (1, .int r)]) hx hb dX6_sparksOn_34 hl (k := 1) rfl (ez_9.symm) (by decide) rfl (fun ls hl => ?_)
      refine lv_goto (tgt := 4) hx hb dX6_sparksOn_37 (by decide) ?_
      exact ih4 (z_9, y_2) _ _ ls (by show (6 - z_9.toInt).toNat < (6 - i_1.toInt).toNat; omega) ⟨(show 0 ≤ z_9.toInt ∧ z_9.toInt ≤ 6 from ⟨by omega, by omega⟩), hP.sub [0, 1, 2] rfl, rfl, rfl, lv_sub hl [0, 1, 2, 3] rfl⟩
    · have c_8 : r_7.toInt ≠ 0 := ti_ne c_8
      have qc_8 : r_7 = 1 := ti_of (show r_7.toInt = 1 from by omega)
      refine lv_iconst (v := 1) hx hb dX6_sparksOn_27 (by decide) ?_
      refine lv_goto (tgt := 32) hx hb dX6_sparksOn_28 (by decide) ?_
      refine lv_iadd hx hb dX6_sparksOn_32 ?_
      refine lv_topi (fun z_10 ez_10 => ?_)
      refine lv_istore_n (lv' := [(2, .int z_10), (3, .int i_1), (0, .ref (w 0)), (1, .int r)]) hx hb dX6_sparksOn_33 rfl hl (by decide) rfl (fun ls hl => ?_)
      obtain ⟨z_11, ez_11⟩ : ∃ y : Int32, y = i_1 + 1 := ⟨_, rfl⟩
      have tz_11 : z_11.toInt = i_1.toInt + 1 := by rw [ez_11]; exact ti_addc (by decide) (by omega) (by omega)
      refine lv_iinc (v := z_11) (lv' := [(3, .int z_11), (2, .int z_10), (0, .ref (w 0)), (1, .int r)]) hx hb dX6_sparksOn_34 hl (k := 1) rfl (ez_11.symm) (by decide) rfl (fun ls hl => ?_)
      refine lv_goto (tgt := 4) hx hb dX6_sparksOn_37 (by decide) ?_
      exact ih4 (z_11, z_10) _ _ ls (by show (6 - z_11.toInt).toNat < (6 - i_1.toInt).toNat; omega) ⟨(show 0 ≤ z_11.toInt ∧ z_11.toInt ≤ 6 from ⟨by omega, by omega⟩), hP.sub [0, 1, 2] rfl, rfl, rfl, lv_sub hl [0, 1, 2, 3] rfl⟩
set_option maxHeartbeats 4000000 in
set_option maxRecDepth 100000 in
theorem s_W_miceInAll (l : Launch) (D : va_G) (k : Nat → ClassId) (w : Nat → Nat) (y : Nat → Int32) (g : Nat → Nat → Int32) (w_h0 : 0 ≤ (y 0).toInt ∧ (y 0).toInt ≤ 10) (w_h2 : 0 ≤ (y 2).toInt ∧ (y 2).toInt ≤ 6) (w_h6 : 0 ≤ (y 6).toInt ∧ (y 6).toInt ≤ 1) (w_hd : ∀ j : Nat, 0 ≤ ((g 1) j).toInt ∧ ((g 1) j).toInt ≤ 6) : Met l yX6_miceInAll (Cond.code yX6_miceInAll cX6_miceInAll 3 (some .int) :: wsL_law) ({ frames := 2, cells := 0, slots := 0, locals := 120 } : Room) (va_Pc [.ref (w 0)] (pr D k [((w 0), .inr (5, [.int (y 0), .int (y 1), .int (y 2), .int (y 3), .int (y 4), .int (y 5), .int (y 6), .int (y 7), .int (y 8), .int (y 9), .int (y 10), .ref (w 1), .ref (w 2), .ref (w 3), .ref (w 4), .ref (w 5)])), ((w 1), .inl (k 0, 10, .inl (g 1))), ((w 3), .inl (k 0, 60, .inl (g 3)))])) (vp_Si (fun rr => True)) 0 0 (fun _ => False) := by
  refine Met.ofW (cc := cX6_miceInAll) (maxL := 3) (ret := (some .int)) (by decide) rfl ?_
  intro p e s m args below meth c s₁ B hml hv
  obtain ⟨rfl, hP, hK, hN0⟩ := hv
  have hx := B.exec
  have hb := B.bytes
  have hr := B.returns
  have hts : ∀ w ∈ wsL_law, w.before _ s = true := fun w h => atoms_spec (ws := Cond.code yX6_miceInAll cX6_miceInAll 3 (some .int) :: wsL_law) B.pre w (List.mem_cons_of_mem _ h)
  have hown : s.vm.findClass RX6 = some m.cls := findClass_of_methodNamed B.named
  have hlocks := B.notSynchronized
  have hP : va_P D vwCl [((w 0), .inr (5, [.int (y 0), .int (y 1), .int (y 2), .int (y 3), .int (y 4), .int (y 5), .int (y 6), .int (y 7), .int (y 8), .int (y 9), .int (y 10), .ref (w 1), .ref (w 2), .ref (w 3), .ref (w 4), .ref (w 5)])), ((w 1), .inl (k 0, 10, .inl (g 1))), ((w 3), .inl (k 0, 60, .inl (g 3)))] s.heap := hP
  have hl := lv_entry ([.ref (w 0)]) (n := 3) (Nat.le_of_ble_eq_true rfl)
  rw [lg_entry_eq]
  generalize (lg_sl ([.ref (w 0)]) ++ List.replicate (3 - (lg_sl ([.ref (w 0)])).length) Slot.unset).toArray = ls at hl ⊢
  have hl : lv_has ls 3 [(0, .ref (w 0))] := hl
  refine lv_iconst (v := 0) hx hb dX6_miceInAll_0 (by decide) ?_
  refine lv_istore_n (lv' := [(1, .int 0), (0, .ref (w 0))]) hx hb dX6_miceInAll_1 rfl hl (by decide) rfl (fun ls hl => ?_)
  refine lv_iconst (v := 0) hx hb dX6_miceInAll_2 (by decide) ?_
  refine lv_istore_n (lv' := [(2, .int 0), (1, .int 0), (0, .ref (w 0))]) hx hb dX6_miceInAll_3 rfl hl (by decide) rfl (fun ls hl => ?_)
  refine W_loop (σ := Int32 × Int32) (fun xx H locs ls => (0 ≤ xx.1.toInt ∧ xx.1.toInt ≤ 10) ∧ va_P D vwCl [((w 0), .inr (5, [.int (y 0), .int (y 1), .int (y 2), .int (y 3), .int (y 4), .int (y 5), .int (y 6), .int (y 7), .int (y 8), .int (y 9), .int (y 10), .ref (w 1), .ref (w 2), .ref (w 3), .ref (w 4), .ref (w 5)])), ((w 1), .inl (k 0, 10, .inl (g 1))), ((w 3), .inl (k 0, 60, .inl (g 3)))] H ∧ H = s.heap ∧ locs = [] ∧ lv_has ls 3 [(2, .int xx.1), (1, .int xx.2), (0, .ref (w 0))]) (fun xx => (10 - xx.1.toInt).toNat) ?_ (0, 0) _ _ ls ⟨(show 0 ≤ (0 : Int32).toInt ∧ (0 : Int32).toInt ≤ 10 from ⟨by decide, by decide⟩), hP.sub [0, 1, 2] rfl, rfl, rfl, lv_sub hl [0, 1, 2] rfl⟩
  intro xx H locs ls hI ih4
  obtain ⟨i_1, y_2⟩ := xx
  obtain ⟨h_3, hP, rfl, rfl, hl⟩ := hI
  have h_3 : 0 ≤ i_1.toInt ∧ i_1.toInt ≤ 10 := h_3
  obtain ⟨h_3a, h_3b⟩ := h_3
  have hP : va_P D vwCl [((w 0), .inr (5, [.int (y 0), .int (y 1), .int (y 2), .int (y 3), .int (y 4), .int (y 5), .int (y 6), .int (y 7), .int (y 8), .int (y 9), .int (y 10), .ref (w 1), .ref (w 2), .ref (w 3), .ref (w 4), .ref (w 5)])), ((w 1), .inl (k 0, 10, .inl (g 1))), ((w 3), .inl (k 0, 60, .inl (g 3)))] s.heap := hP
  have hl : lv_has ls 3 [(2, .int i_1), (1, .int y_2), (0, .ref (w 0))] := hl
  refine lv_iload_n hx hb dX6_miceInAll_4 rfl (lv_at hl 0 rfl) ?_
  refine lv_aload_n hx hb dX6_miceInAll_5 rfl (lv_at hl 2 rfl) ?_
  refine va_get (D := D) (ci := 5) (v := .int (y 0)) (C := RX6) (T := TX6) (N := 16) hx hb hts inlX6 hown hK hP 0 rfl rfl 0 (by decide) (hts _ mw_152) (fun _ h9 => h9) rfl dX6_miceInAll_6 ?_
  refine lv_icmp_ge (tgt := 26) hx hb dX6_miceInAll_9 (by decide) (fun c_4 => ?_) (fun c_4 => ?_)
  · have c_4 : (y 0).toInt ≤ i_1.toInt := ti_le c_4
    refine lv_iload_n hx hb dX6_miceInAll_26 rfl (lv_at hl 1 rfl) ?_
    exact W.iret (v := y_2) hx hb hr (fun t ht hW => ⟨y_2, rfl, trivial, ht⟩) (fun q h => by cases h) dX6_miceInAll_27
  · have c_4 : i_1.toInt < (y 0).toInt := ti_nle c_4
    refine lv_iload_n hx hb dX6_miceInAll_12 rfl (lv_at hl 1 rfl) ?_
    refine lv_aload_n hx hb dX6_miceInAll_13 rfl (lv_at hl 2 rfl) ?_
    refine lv_iload_n hx hb dX6_miceInAll_14 rfl (lv_at hl 0 rfl) ?_
    refine kV_i (q0 := 0) (As := [.int i_1]) (rest := [.int y_2]) ⟨hx, hb, hml, hown, hts⟩ (s_W_miceOn l D k _ y g i_1 (show 0 ≤ (y 0).toInt ∧ (y 0).toInt ≤ 10 from ⟨by omega, by omega⟩) (show 0 ≤ (y 2).toInt ∧ (y 2).toInt ≤ 6 from ⟨by omega, by omega⟩) (show 0 ≤ (y 6).toInt ∧ (y 6).toInt ≤ 1 from ⟨by omega, by omega⟩) (show ∀ j : Nat, 0 ≤ ((g 1) j).toInt ∧ ((g 1) j).toInt ≤ 6 from w_hd) (show 0 ≤ i_1.toInt ∧ i_1.toInt ≤ 9 from ⟨by omega, by omega⟩)) (gV mw_838 mw_399 mw_400 mw_19 mw_401) hd_yX6_miceOn rfl rfl ⟨Nat.le_of_ble_eq_true rfl, Nat.le_of_ble_eq_true rfl⟩ hK hN0 (hP.sub [0, 1, 2] rfl) rfl rfl rfl rfl hl.1 rfl (Nat.le_of_ble_eq_true rfl) dX6_miceInAll_15 ⟨Nat.le_of_ble_eq_true rfl, Nat.le_of_ble_eq_true rfl⟩ (fun r_5 hr_5 => ?_)
    refine lv_iadd hx hb dX6_miceInAll_18 ?_
    refine lv_topi (fun z_6 ez_6 => ?_)
    refine lv_istore_n (lv' := [(1, .int z_6), (2, .int i_1), (0, .ref (w 0))]) hx hb dX6_miceInAll_19 rfl hl (by decide) rfl (fun ls hl => ?_)
    obtain ⟨z_7, ez_7⟩ : ∃ y : Int32, y = i_1 + 1 := ⟨_, rfl⟩
    have tz_7 : z_7.toInt = i_1.toInt + 1 := by rw [ez_7]; exact ti_addc (by decide) (by omega) (by omega)
    refine lv_iinc (v := z_7) (lv' := [(2, .int z_7), (1, .int z_6), (0, .ref (w 0))]) hx hb dX6_miceInAll_20 hl (k := 1) rfl (ez_7.symm) (by decide) rfl (fun ls hl => ?_)
    refine lv_goto (tgt := 4) hx hb dX6_miceInAll_23 (by decide) ?_
    exact ih4 (z_7, z_6) _ _ ls (by show (10 - z_7.toInt).toNat < (10 - i_1.toInt).toNat; omega) ⟨(show 0 ≤ z_7.toInt ∧ z_7.toInt ≤ 10 from ⟨by omega, by omega⟩), hP.sub [0, 1, 2] rfl, rfl, rfl, lv_sub hl [0, 1, 2] rfl⟩
set_option maxHeartbeats 4000000 in
set_option maxRecDepth 100000 in
theorem s_W_sparksInAll (l : Launch) (D : va_G) (k : Nat → ClassId) (w : Nat → Nat) (y : Nat → Int32) (g : Nat → Nat → Int32) (w_h0 : 0 ≤ (y 0).toInt ∧ (y 0).toInt ≤ 10) (w_h2 : 0 ≤ (y 2).toInt ∧ (y 2).toInt ≤ 6) (w_h6 : 0 ≤ (y 6).toInt ∧ (y 6).toInt ≤ 1) (w_hd : ∀ j : Nat, 0 ≤ ((g 1) j).toInt ∧ ((g 1) j).toInt ≤ 6) : Met l yX6_sparksInAll (Cond.code yX6_sparksInAll cX6_sparksInAll 3 (some .int) :: wsL_law) ({ frames := 2, cells := 0, slots := 0, locals := 120 } : Room) (va_Pc [.ref (w 0)] (pr D k [((w 0), .inr (5, [.int (y 0), .int (y 1), .int (y 2), .int (y 3), .int (y 4), .int (y 5), .int (y 6), .int (y 7), .int (y 8), .int (y 9), .int (y 10), .ref (w 1), .ref (w 2), .ref (w 3), .ref (w 4), .ref (w 5)])), ((w 1), .inl (k 0, 10, .inl (g 1))), ((w 3), .inl (k 0, 60, .inl (g 3)))])) (vp_Si (fun rr => True)) 0 0 (fun _ => False) := by
  refine Met.ofW (cc := cX6_sparksInAll) (maxL := 3) (ret := (some .int)) (by decide) rfl ?_
  intro p e s m args below meth c s₁ B hml hv
  obtain ⟨rfl, hP, hK, hN0⟩ := hv
  have hx := B.exec
  have hb := B.bytes
  have hr := B.returns
  have hts : ∀ w ∈ wsL_law, w.before _ s = true := fun w h => atoms_spec (ws := Cond.code yX6_sparksInAll cX6_sparksInAll 3 (some .int) :: wsL_law) B.pre w (List.mem_cons_of_mem _ h)
  have hown : s.vm.findClass RX6 = some m.cls := findClass_of_methodNamed B.named
  have hlocks := B.notSynchronized
  have hP : va_P D vwCl [((w 0), .inr (5, [.int (y 0), .int (y 1), .int (y 2), .int (y 3), .int (y 4), .int (y 5), .int (y 6), .int (y 7), .int (y 8), .int (y 9), .int (y 10), .ref (w 1), .ref (w 2), .ref (w 3), .ref (w 4), .ref (w 5)])), ((w 1), .inl (k 0, 10, .inl (g 1))), ((w 3), .inl (k 0, 60, .inl (g 3)))] s.heap := hP
  have hl := lv_entry ([.ref (w 0)]) (n := 3) (Nat.le_of_ble_eq_true rfl)
  rw [lg_entry_eq]
  generalize (lg_sl ([.ref (w 0)]) ++ List.replicate (3 - (lg_sl ([.ref (w 0)])).length) Slot.unset).toArray = ls at hl ⊢
  have hl : lv_has ls 3 [(0, .ref (w 0))] := hl
  refine lv_iconst (v := 0) hx hb dX6_sparksInAll_0 (by decide) ?_
  refine lv_istore_n (lv' := [(1, .int 0), (0, .ref (w 0))]) hx hb dX6_sparksInAll_1 rfl hl (by decide) rfl (fun ls hl => ?_)
  refine lv_iconst (v := 0) hx hb dX6_sparksInAll_2 (by decide) ?_
  refine lv_istore_n (lv' := [(2, .int 0), (1, .int 0), (0, .ref (w 0))]) hx hb dX6_sparksInAll_3 rfl hl (by decide) rfl (fun ls hl => ?_)
  refine W_loop (σ := Int32 × Int32) (fun xx H locs ls => (0 ≤ xx.1.toInt ∧ xx.1.toInt ≤ 10) ∧ va_P D vwCl [((w 0), .inr (5, [.int (y 0), .int (y 1), .int (y 2), .int (y 3), .int (y 4), .int (y 5), .int (y 6), .int (y 7), .int (y 8), .int (y 9), .int (y 10), .ref (w 1), .ref (w 2), .ref (w 3), .ref (w 4), .ref (w 5)])), ((w 1), .inl (k 0, 10, .inl (g 1))), ((w 3), .inl (k 0, 60, .inl (g 3)))] H ∧ H = s.heap ∧ locs = [] ∧ lv_has ls 3 [(2, .int xx.1), (1, .int xx.2), (0, .ref (w 0))]) (fun xx => (10 - xx.1.toInt).toNat) ?_ (0, 0) _ _ ls ⟨(show 0 ≤ (0 : Int32).toInt ∧ (0 : Int32).toInt ≤ 10 from ⟨by decide, by decide⟩), hP.sub [0, 1, 2] rfl, rfl, rfl, lv_sub hl [0, 1, 2] rfl⟩
  intro xx H locs ls hI ih4
  obtain ⟨i_1, y_2⟩ := xx
  obtain ⟨h_3, hP, rfl, rfl, hl⟩ := hI
  have h_3 : 0 ≤ i_1.toInt ∧ i_1.toInt ≤ 10 := h_3
  obtain ⟨h_3a, h_3b⟩ := h_3
  have hP : va_P D vwCl [((w 0), .inr (5, [.int (y 0), .int (y 1), .int (y 2), .int (y 3), .int (y 4), .int (y 5), .int (y 6), .int (y 7), .int (y 8), .int (y 9), .int (y 10), .ref (w 1), .ref (w 2), .ref (w 3), .ref (w 4), .ref (w 5)])), ((w 1), .inl (k 0, 10, .inl (g 1))), ((w 3), .inl (k 0, 60, .inl (g 3)))] s.heap := hP
  have hl : lv_has ls 3 [(2, .int i_1), (1, .int y_2), (0, .ref (w 0))] := hl
  refine lv_iload_n hx hb dX6_sparksInAll_4 rfl (lv_at hl 0 rfl) ?_
  refine lv_aload_n hx hb dX6_sparksInAll_5 rfl (lv_at hl 2 rfl) ?_
  refine va_get (D := D) (ci := 5) (v := .int (y 0)) (C := RX6) (T := TX6) (N := 16) hx hb hts inlX6 hown hK hP 0 rfl rfl 0 (by decide) (hts _ mw_152) (fun _ h9 => h9) rfl dX6_sparksInAll_6 ?_
  refine lv_icmp_ge (tgt := 26) hx hb dX6_sparksInAll_9 (by decide) (fun c_4 => ?_) (fun c_4 => ?_)
  · have c_4 : (y 0).toInt ≤ i_1.toInt := ti_le c_4
    refine lv_iload_n hx hb dX6_sparksInAll_26 rfl (lv_at hl 1 rfl) ?_
    exact W.iret (v := y_2) hx hb hr (fun t ht hW => ⟨y_2, rfl, trivial, ht⟩) (fun q h => by cases h) dX6_sparksInAll_27
  · have c_4 : i_1.toInt < (y 0).toInt := ti_nle c_4
    refine lv_iload_n hx hb dX6_sparksInAll_12 rfl (lv_at hl 1 rfl) ?_
    refine lv_aload_n hx hb dX6_sparksInAll_13 rfl (lv_at hl 2 rfl) ?_
    refine lv_iload_n hx hb dX6_sparksInAll_14 rfl (lv_at hl 0 rfl) ?_
    refine kV_i (q0 := 0) (As := [.int i_1]) (rest := [.int y_2]) ⟨hx, hb, hml, hown, hts⟩ (s_W_sparksOn l D k _ y g i_1 (show 0 ≤ (y 0).toInt ∧ (y 0).toInt ≤ 10 from ⟨by omega, by omega⟩) (show 0 ≤ (y 2).toInt ∧ (y 2).toInt ≤ 6 from ⟨by omega, by omega⟩) (show 0 ≤ (y 6).toInt ∧ (y 6).toInt ≤ 1 from ⟨by omega, by omega⟩) (show ∀ j : Nat, 0 ≤ ((g 1) j).toInt ∧ ((g 1) j).toInt ≤ 6 from w_hd) (show 0 ≤ i_1.toInt ∧ i_1.toInt ≤ 9 from ⟨by omega, by omega⟩)) (gV mw_890 mw_695 mw_696 mw_19 mw_697) hd_yX6_sparksOn rfl rfl ⟨Nat.le_of_ble_eq_true rfl, Nat.le_of_ble_eq_true rfl⟩ hK hN0 (hP.sub [0, 1, 2] rfl) rfl rfl rfl rfl hl.1 rfl (Nat.le_of_ble_eq_true rfl) dX6_sparksInAll_15 ⟨Nat.le_of_ble_eq_true rfl, Nat.le_of_ble_eq_true rfl⟩ (fun r_5 hr_5 => ?_)
    refine lv_iadd hx hb dX6_sparksInAll_18 ?_
    refine lv_topi (fun z_6 ez_6 => ?_)
    refine lv_istore_n (lv' := [(1, .int z_6), (2, .int i_1), (0, .ref (w 0))]) hx hb dX6_sparksInAll_19 rfl hl (by decide) rfl (fun ls hl => ?_)
    obtain ⟨z_7, ez_7⟩ : ∃ y : Int32, y = i_1 + 1 := ⟨_, rfl⟩
    have tz_7 : z_7.toInt = i_1.toInt + 1 := by rw [ez_7]; exact ti_addc (by decide) (by omega) (by omega)
    refine lv_iinc (v := z_7) (lv' := [(2, .int z_7), (1, .int z_6), (0, .ref (w 0))]) hx hb dX6_sparksInAll_20 hl (k := 1) rfl (ez_7.symm) (by decide) rfl (fun ls hl => ?_)
    refine lv_goto (tgt := 4) hx hb dX6_sparksInAll_23 (by decide) ?_
    exact ih4 (z_7, z_6) _ _ ls (by show (10 - z_7.toInt).toNat < (10 - i_1.toInt).toNat; omega) ⟨(show 0 ≤ z_7.toInt ∧ z_7.toInt ≤ 10 from ⟨by omega, by omega⟩), hP.sub [0, 1, 2] rfl, rfl, rfl, lv_sub hl [0, 1, 2] rfl⟩
set_option maxHeartbeats 4000000 in
set_option maxRecDepth 100000 in
theorem s_W_layersInAll (l : Launch) (D : va_G) (k : Nat → ClassId) (w : Nat → Nat) (y : Nat → Int32) (g : Nat → Nat → Int32) (w_h0 : 0 ≤ (y 0).toInt ∧ (y 0).toInt ≤ 10) (w_h2 : 0 ≤ (y 2).toInt ∧ (y 2).toInt ≤ 6) (w_h6 : 0 ≤ (y 6).toInt ∧ (y 6).toInt ≤ 1) (w_hd : ∀ j : Nat, 0 ≤ ((g 1) j).toInt ∧ ((g 1) j).toInt ≤ 6) : Met l yX6_layersInAll (Cond.code yX6_layersInAll cX6_layersInAll 3 (some .int) :: wsL_law) ({ frames := 0, cells := 0, slots := 0, locals := 0 } : Room) (va_Pc [.ref (w 0)] (pr D k [((w 0), .inr (5, [.int (y 0), .int (y 1), .int (y 2), .int (y 3), .int (y 4), .int (y 5), .int (y 6), .int (y 7), .int (y 8), .int (y 9), .int (y 10), .ref (w 1), .ref (w 2), .ref (w 3), .ref (w 4), .ref (w 5)])), ((w 1), .inl (k 0, 10, .inl (g 1)))])) (vp_Si (fun rr => True)) 0 0 (fun _ => False) := by
  refine Met.ofW (cc := cX6_layersInAll) (maxL := 3) (ret := (some .int)) (by decide) rfl ?_
  intro p e s m args below meth c s₁ B hml hv
  obtain ⟨rfl, hP, hK, hN0⟩ := hv
  have hx := B.exec
  have hb := B.bytes
  have hr := B.returns
  have hts : ∀ w ∈ wsL_law, w.before _ s = true := fun w h => atoms_spec (ws := Cond.code yX6_layersInAll cX6_layersInAll 3 (some .int) :: wsL_law) B.pre w (List.mem_cons_of_mem _ h)
  have hown : s.vm.findClass RX6 = some m.cls := findClass_of_methodNamed B.named
  have hlocks := B.notSynchronized
  have hP : va_P D vwCl [((w 0), .inr (5, [.int (y 0), .int (y 1), .int (y 2), .int (y 3), .int (y 4), .int (y 5), .int (y 6), .int (y 7), .int (y 8), .int (y 9), .int (y 10), .ref (w 1), .ref (w 2), .ref (w 3), .ref (w 4), .ref (w 5)])), ((w 1), .inl (k 0, 10, .inl (g 1)))] s.heap := hP
  have hl := lv_entry ([.ref (w 0)]) (n := 3) (Nat.le_of_ble_eq_true rfl)
  rw [lg_entry_eq]
  generalize (lg_sl ([.ref (w 0)]) ++ List.replicate (3 - (lg_sl ([.ref (w 0)])).length) Slot.unset).toArray = ls at hl ⊢
  have hl : lv_has ls 3 [(0, .ref (w 0))] := hl
  refine lv_iconst (v := 0) hx hb dX6_layersInAll_0 (by decide) ?_
  refine lv_istore_n (lv' := [(1, .int 0), (0, .ref (w 0))]) hx hb dX6_layersInAll_1 rfl hl (by decide) rfl (fun ls hl => ?_)
  refine lv_iconst (v := 0) hx hb dX6_layersInAll_2 (by decide) ?_
  refine lv_istore_n (lv' := [(2, .int 0), (1, .int 0), (0, .ref (w 0))]) hx hb dX6_layersInAll_3 rfl hl (by decide) rfl (fun ls hl => ?_)
  refine W_loop (σ := Int32 × Int32) (fun xx H locs ls => (0 ≤ xx.1.toInt ∧ xx.1.toInt ≤ 10) ∧ va_P D vwCl [((w 0), .inr (5, [.int (y 0), .int (y 1), .int (y 2), .int (y 3), .int (y 4), .int (y 5), .int (y 6), .int (y 7), .int (y 8), .int (y 9), .int (y 10), .ref (w 1), .ref (w 2), .ref (w 3), .ref (w 4), .ref (w 5)])), ((w 1), .inl (k 0, 10, .inl (g 1)))] H ∧ H = s.heap ∧ locs = [] ∧ lv_has ls 3 [(2, .int xx.1), (1, .int xx.2), (0, .ref (w 0))]) (fun xx => (10 - xx.1.toInt).toNat) ?_ (0, 0) _ _ ls ⟨(show 0 ≤ (0 : Int32).toInt ∧ (0 : Int32).toInt ≤ 10 from ⟨by decide, by decide⟩), hP.sub [0, 1] rfl, rfl, rfl, lv_sub hl [0, 1, 2] rfl⟩
  intro xx H locs ls hI ih4
  obtain ⟨i_1, y_2⟩ := xx
  obtain ⟨h_3, hP, rfl, rfl, hl⟩ := hI
  have h_3 : 0 ≤ i_1.toInt ∧ i_1.toInt ≤ 10 := h_3
  obtain ⟨h_3a, h_3b⟩ := h_3
  have hP : va_P D vwCl [((w 0), .inr (5, [.int (y 0), .int (y 1), .int (y 2), .int (y 3), .int (y 4), .int (y 5), .int (y 6), .int (y 7), .int (y 8), .int (y 9), .int (y 10), .ref (w 1), .ref (w 2), .ref (w 3), .ref (w 4), .ref (w 5)])), ((w 1), .inl (k 0, 10, .inl (g 1)))] s.heap := hP
  have hl : lv_has ls 3 [(2, .int i_1), (1, .int y_2), (0, .ref (w 0))] := hl
  refine lv_iload_n hx hb dX6_layersInAll_4 rfl (lv_at hl 0 rfl) ?_
  refine lv_aload_n hx hb dX6_layersInAll_5 rfl (lv_at hl 2 rfl) ?_
  refine va_get (D := D) (ci := 5) (v := .int (y 0)) (C := RX6) (T := TX6) (N := 16) hx hb hts inlX6 hown hK hP 0 rfl rfl 0 (by decide) (hts _ mw_152) (fun _ h9 => h9) rfl dX6_layersInAll_6 ?_
  refine lv_icmp_ge (tgt := 27) hx hb dX6_layersInAll_9 (by decide) (fun c_4 => ?_) (fun c_4 => ?_)
  · have c_4 : (y 0).toInt ≤ i_1.toInt := ti_le c_4
    refine lv_iload_n hx hb dX6_layersInAll_27 rfl (lv_at hl 1 rfl) ?_
    exact W.iret (v := y_2) hx hb hr (fun t ht hW => ⟨y_2, rfl, trivial, ht⟩) (fun q h => by cases h) dX6_layersInAll_28
  · have c_4 : i_1.toInt < (y 0).toInt := ti_nle c_4
    refine lv_iload_n hx hb dX6_layersInAll_12 rfl (lv_at hl 1 rfl) ?_
    refine lv_aload_n hx hb dX6_layersInAll_13 rfl (lv_at hl 2 rfl) ?_
    refine va_get (D := D) (ci := 5) (v := .ref (w 1)) (C := RX6) (T := TX6) (N := 16) hx hb hts inlX6 hown hK hP 0 rfl rfl 11 (by decide) (hts _ mw_58) (fun _ h9 => h9) rfl dX6_layersInAll_14 ?_
    refine lv_iload_n hx hb dX6_layersInAll_17 rfl (lv_at hl 0 rfl) ?_
    refine va_iald hx hb hK hP 1 0 rfl rfl (vp_in_o (by omega) (by omega)) dX6_layersInAll_18 ?_
    refine lv_topi (fun z_5 ez_5 => ?_)
    have bz_5 : 0 ≤ z_5.toInt ∧ z_5.toInt ≤ 6 := by rw [ez_5]; exact w_hd _
    refine lv_iadd hx hb dX6_layersInAll_19 ?_
    refine lv_topi (fun z_6 ez_6 => ?_)
    refine lv_istore_n (lv' := [(1, .int z_6), (2, .int i_1), (0, .ref (w 0))]) hx hb dX6_layersInAll_20 rfl hl (by decide) rfl (fun ls hl => ?_)
    obtain ⟨z_7, ez_7⟩ : ∃ y : Int32, y = i_1 + 1 := ⟨_, rfl⟩
    have tz_7 : z_7.toInt = i_1.toInt + 1 := by rw [ez_7]; exact ti_addc (by decide) (by omega) (by omega)
    refine lv_iinc (v := z_7) (lv' := [(2, .int z_7), (1, .int z_6), (0, .ref (w 0))]) hx hb dX6_layersInAll_21 hl (k := 1) rfl (ez_7.symm) (by decide) rfl (fun ls hl => ?_)
    refine lv_goto (tgt := 4) hx hb dX6_layersInAll_24 (by decide) ?_
    exact ih4 (z_7, z_6) _ _ ls (by show (10 - z_7.toInt).toNat < (10 - i_1.toInt).toNat; omega) ⟨(show 0 ≤ z_7.toInt ∧ z_7.toInt ≤ 10 from ⟨by omega, by omega⟩), hP.sub [0, 1] rfl, rfl, rfl, lv_sub hl [0, 1, 2] rfl⟩
set_option maxHeartbeats 4000000 in
set_option maxRecDepth 100000 in
theorem s_W_laidInAll (l : Launch) (D : va_G) (k : Nat → ClassId) (w : Nat → Nat) (y : Nat → Int32) (g : Nat → Nat → Int32) (w_h0 : 0 ≤ (y 0).toInt ∧ (y 0).toInt ≤ 10) (w_h2 : 0 ≤ (y 2).toInt ∧ (y 2).toInt ≤ 6) (w_h6 : 0 ≤ (y 6).toInt ∧ (y 6).toInt ≤ 1) : Met l yX6_laidInAll (Cond.code yX6_laidInAll cX6_laidInAll 3 (some .int) :: wsL_law) ({ frames := 0, cells := 0, slots := 0, locals := 0 } : Room) (va_Pc [.ref (w 0)] (pr D k [((w 0), .inr (5, [.int (y 0), .int (y 1), .int (y 2), .int (y 3), .int (y 4), .int (y 5), .int (y 6), .int (y 7), .int (y 8), .int (y 9), .int (y 10), .ref (w 1), .ref (w 2), .ref (w 3), .ref (w 4), .ref (w 5)])), ((w 2), .inl (k 0, 10, .inl (g 2)))])) (vp_Si (fun rr => True)) 0 0 (fun _ => False) := by
  refine Met.ofW (cc := cX6_laidInAll) (maxL := 3) (ret := (some .int)) (by decide) rfl ?_
  intro p e s m args below meth c s₁ B hml hv
  obtain ⟨rfl, hP, hK, hN0⟩ := hv
  have hx := B.exec
  have hb := B.bytes
  have hr := B.returns
  have hts : ∀ w ∈ wsL_law, w.before _ s = true := fun w h => atoms_spec (ws := Cond.code yX6_laidInAll cX6_laidInAll 3 (some .int) :: wsL_law) B.pre w (List.mem_cons_of_mem _ h)
  have hown : s.vm.findClass RX6 = some m.cls := findClass_of_methodNamed B.named
  have hlocks := B.notSynchronized
  have hP : va_P D vwCl [((w 0), .inr (5, [.int (y 0), .int (y 1), .int (y 2), .int (y 3), .int (y 4), .int (y 5), .int (y 6), .int (y 7), .int (y 8), .int (y 9), .int (y 10), .ref (w 1), .ref (w 2), .ref (w 3), .ref (w 4), .ref (w 5)])), ((w 2), .inl (k 0, 10, .inl (g 2)))] s.heap := hP
  have hl := lv_entry ([.ref (w 0)]) (n := 3) (Nat.le_of_ble_eq_true rfl)
  rw [lg_entry_eq]
  generalize (lg_sl ([.ref (w 0)]) ++ List.replicate (3 - (lg_sl ([.ref (w 0)])).length) Slot.unset).toArray = ls at hl ⊢
  have hl : lv_has ls 3 [(0, .ref (w 0))] := hl
  refine lv_iconst (v := 0) hx hb dX6_laidInAll_0 (by decide) ?_
  refine lv_istore_n (lv' := [(1, .int 0), (0, .ref (w 0))]) hx hb dX6_laidInAll_1 rfl hl (by decide) rfl (fun ls hl => ?_)
  refine lv_iconst (v := 0) hx hb dX6_laidInAll_2 (by decide) ?_
  refine lv_istore_n (lv' := [(2, .int 0), (1, .int 0), (0, .ref (w 0))]) hx hb dX6_laidInAll_3 rfl hl (by decide) rfl (fun ls hl => ?_)
  refine W_loop (σ := Int32 × Int32) (fun xx H locs ls => (0 ≤ xx.1.toInt ∧ xx.1.toInt ≤ 10) ∧ va_P D vwCl [((w 0), .inr (5, [.int (y 0), .int (y 1), .int (y 2), .int (y 3), .int (y 4), .int (y 5), .int (y 6), .int (y 7), .int (y 8), .int (y 9), .int (y 10), .ref (w 1), .ref (w 2), .ref (w 3), .ref (w 4), .ref (w 5)])), ((w 2), .inl (k 0, 10, .inl (g 2)))] H ∧ H = s.heap ∧ locs = [] ∧ lv_has ls 3 [(2, .int xx.1), (1, .int xx.2), (0, .ref (w 0))]) (fun xx => (10 - xx.1.toInt).toNat) ?_ (0, 0) _ _ ls ⟨(show 0 ≤ (0 : Int32).toInt ∧ (0 : Int32).toInt ≤ 10 from ⟨by decide, by decide⟩), hP.sub [0, 1] rfl, rfl, rfl, lv_sub hl [0, 1, 2] rfl⟩
  intro xx H locs ls hI ih4
  obtain ⟨i_1, y_2⟩ := xx
  obtain ⟨h_3, hP, rfl, rfl, hl⟩ := hI
  have h_3 : 0 ≤ i_1.toInt ∧ i_1.toInt ≤ 10 := h_3
  obtain ⟨h_3a, h_3b⟩ := h_3
  have hP : va_P D vwCl [((w 0), .inr (5, [.int (y 0), .int (y 1), .int (y 2), .int (y 3), .int (y 4), .int (y 5), .int (y 6), .int (y 7), .int (y 8), .int (y 9), .int (y 10), .ref (w 1), .ref (w 2), .ref (w 3), .ref (w 4), .ref (w 5)])), ((w 2), .inl (k 0, 10, .inl (g 2)))] s.heap := hP
  have hl : lv_has ls 3 [(2, .int i_1), (1, .int y_2), (0, .ref (w 0))] := hl
  refine lv_iload_n hx hb dX6_laidInAll_4 rfl (lv_at hl 0 rfl) ?_
  refine lv_aload_n hx hb dX6_laidInAll_5 rfl (lv_at hl 2 rfl) ?_
  refine va_get (D := D) (ci := 5) (v := .int (y 0)) (C := RX6) (T := TX6) (N := 16) hx hb hts inlX6 hown hK hP 0 rfl rfl 0 (by decide) (hts _ mw_152) (fun _ h9 => h9) rfl dX6_laidInAll_6 ?_
  refine lv_icmp_ge (tgt := 27) hx hb dX6_laidInAll_9 (by decide) (fun c_4 => ?_) (fun c_4 => ?_)
  · have c_4 : (y 0).toInt ≤ i_1.toInt := ti_le c_4
    refine lv_iload_n hx hb dX6_laidInAll_27 rfl (lv_at hl 1 rfl) ?_
    exact W.iret (v := y_2) hx hb hr (fun t ht hW => ⟨y_2, rfl, trivial, ht⟩) (fun q h => by cases h) dX6_laidInAll_28
  · have c_4 : i_1.toInt < (y 0).toInt := ti_nle c_4
    refine lv_iload_n hx hb dX6_laidInAll_12 rfl (lv_at hl 1 rfl) ?_
    refine lv_aload_n hx hb dX6_laidInAll_13 rfl (lv_at hl 2 rfl) ?_
    refine va_get (D := D) (ci := 5) (v := .ref (w 2)) (C := RX6) (T := TX6) (N := 16) hx hb hts inlX6 hown hK hP 0 rfl rfl 12 (by decide) (hts _ mw_59) (fun _ h9 => h9) rfl dX6_laidInAll_14 ?_
    refine lv_iload_n hx hb dX6_laidInAll_17 rfl (lv_at hl 0 rfl) ?_
    refine va_iald hx hb hK hP 1 0 rfl rfl (vp_in_o (by omega) (by omega)) dX6_laidInAll_18 ?_
    refine lv_topi (fun z_5 ez_5 => ?_)
    refine lv_iadd hx hb dX6_laidInAll_19 ?_
    refine lv_topi (fun z_6 ez_6 => ?_)
    refine lv_istore_n (lv' := [(1, .int z_6), (2, .int i_1), (0, .ref (w 0))]) hx hb dX6_laidInAll_20 rfl hl (by decide) rfl (fun ls hl => ?_)
    obtain ⟨z_7, ez_7⟩ : ∃ y : Int32, y = i_1 + 1 := ⟨_, rfl⟩
    have tz_7 : z_7.toInt = i_1.toInt + 1 := by rw [ez_7]; exact ti_addc (by decide) (by omega) (by omega)
    refine lv_iinc (v := z_7) (lv' := [(2, .int z_7), (1, .int z_6), (0, .ref (w 0))]) hx hb dX6_laidInAll_21 hl (k := 1) rfl (ez_7.symm) (by decide) rfl (fun ls hl => ?_)
    refine lv_goto (tgt := 4) hx hb dX6_laidInAll_24 (by decide) ?_
    exact ih4 (z_7, z_6) _ _ ls (by show (10 - z_7.toInt).toNat < (10 - i_1.toInt).toNat; omega) ⟨(show 0 ≤ z_7.toInt ∧ z_7.toInt ≤ 10 from ⟨by omega, by omega⟩), hP.sub [0, 1] rfl, rfl, rfl, lv_sub hl [0, 1, 2] rfl⟩
set_option maxHeartbeats 4000000 in
set_option maxRecDepth 100000 in
theorem s_W_wetInAll (l : Launch) (D : va_G) (k : Nat → ClassId) (w : Nat → Nat) (y : Nat → Int32) (g : Nat → Nat → Int32) (w_h0 : 0 ≤ (y 0).toInt ∧ (y 0).toInt ≤ 10) (w_h2 : 0 ≤ (y 2).toInt ∧ (y 2).toInt ≤ 6) (w_h6 : 0 ≤ (y 6).toInt ∧ (y 6).toInt ≤ 1) (w_hd : ∀ j : Nat, 0 ≤ ((g 1) j).toInt ∧ ((g 1) j).toInt ≤ 6) : Met l yX6_wetInAll (Cond.code yX6_wetInAll cX6_wetInAll 4 (some .int) :: wsL_law) ({ frames := 1, cells := 0, slots := 0, locals := 60 } : Room) (va_Pc [.ref (w 0)] (pr D k [((w 0), .inr (5, [.int (y 0), .int (y 1), .int (y 2), .int (y 3), .int (y 4), .int (y 5), .int (y 6), .int (y 7), .int (y 8), .int (y 9), .int (y 10), .ref (w 1), .ref (w 2), .ref (w 3), .ref (w 4), .ref (w 5)])), ((w 1), .inl (k 0, 10, .inl (g 1))), ((w 3), .inl (k 0, 60, .inl (g 3)))])) (vp_Si (fun rr => True)) 0 0 (fun _ => False) := by
  refine Met.ofW (cc := cX6_wetInAll) (maxL := 4) (ret := (some .int)) (by decide) rfl ?_
  intro p e s m args below meth c s₁ B hml hv
  obtain ⟨rfl, hP, hK, hN0⟩ := hv
  have hx := B.exec
  have hb := B.bytes
  have hr := B.returns
  have hts : ∀ w ∈ wsL_law, w.before _ s = true := fun w h => atoms_spec (ws := Cond.code yX6_wetInAll cX6_wetInAll 4 (some .int) :: wsL_law) B.pre w (List.mem_cons_of_mem _ h)
  have hown : s.vm.findClass RX6 = some m.cls := findClass_of_methodNamed B.named
  have hlocks := B.notSynchronized
  have hP : va_P D vwCl [((w 0), .inr (5, [.int (y 0), .int (y 1), .int (y 2), .int (y 3), .int (y 4), .int (y 5), .int (y 6), .int (y 7), .int (y 8), .int (y 9), .int (y 10), .ref (w 1), .ref (w 2), .ref (w 3), .ref (w 4), .ref (w 5)])), ((w 1), .inl (k 0, 10, .inl (g 1))), ((w 3), .inl (k 0, 60, .inl (g 3)))] s.heap := hP
  have hl := lv_entry ([.ref (w 0)]) (n := 4) (Nat.le_of_ble_eq_true rfl)
  rw [lg_entry_eq]
  generalize (lg_sl ([.ref (w 0)]) ++ List.replicate (4 - (lg_sl ([.ref (w 0)])).length) Slot.unset).toArray = ls at hl ⊢
  have hl : lv_has ls 4 [(0, .ref (w 0))] := hl
  refine lv_iconst (v := 0) hx hb dX6_wetInAll_0 (by decide) ?_
  refine lv_istore_n (lv' := [(1, .int 0), (0, .ref (w 0))]) hx hb dX6_wetInAll_1 rfl hl (by decide) rfl (fun ls hl => ?_)
  refine lv_iconst (v := 0) hx hb dX6_wetInAll_2 (by decide) ?_
  refine lv_istore_n (lv' := [(2, .int 0), (1, .int 0), (0, .ref (w 0))]) hx hb dX6_wetInAll_3 rfl hl (by decide) rfl (fun ls hl => ?_)
  refine W_loop (σ := Int32 × Int32) (fun xx H locs ls => (0 ≤ xx.1.toInt ∧ xx.1.toInt ≤ 10) ∧ va_P D vwCl [((w 0), .inr (5, [.int (y 0), .int (y 1), .int (y 2), .int (y 3), .int (y 4), .int (y 5), .int (y 6), .int (y 7), .int (y 8), .int (y 9), .int (y 10), .ref (w 1), .ref (w 2), .ref (w 3), .ref (w 4), .ref (w 5)])), ((w 1), .inl (k 0, 10, .inl (g 1))), ((w 3), .inl (k 0, 60, .inl (g 3)))] H ∧ H = s.heap ∧ locs = [] ∧ lv_has ls 4 [(2, .int xx.1), (1, .int xx.2), (0, .ref (w 0))]) (fun xx => (10 - xx.1.toInt).toNat) ?_ (0, 0) _ _ ls ⟨(show 0 ≤ (0 : Int32).toInt ∧ (0 : Int32).toInt ≤ 10 from ⟨by decide, by decide⟩), hP.sub [0, 1, 2] rfl, rfl, rfl, lv_sub hl [0, 1, 2] rfl⟩
  intro xx H locs ls hI ih4
  obtain ⟨i_1, y_2⟩ := xx
  obtain ⟨h_3, hP, rfl, rfl, hl⟩ := hI
  have h_3 : 0 ≤ i_1.toInt ∧ i_1.toInt ≤ 10 := h_3
  obtain ⟨h_3a, h_3b⟩ := h_3
  have hP : va_P D vwCl [((w 0), .inr (5, [.int (y 0), .int (y 1), .int (y 2), .int (y 3), .int (y 4), .int (y 5), .int (y 6), .int (y 7), .int (y 8), .int (y 9), .int (y 10), .ref (w 1), .ref (w 2), .ref (w 3), .ref (w 4), .ref (w 5)])), ((w 1), .inl (k 0, 10, .inl (g 1))), ((w 3), .inl (k 0, 60, .inl (g 3)))] s.heap := hP
  have hl : lv_has ls 4 [(2, .int i_1), (1, .int y_2), (0, .ref (w 0))] := hl
  refine lv_iload_n hx hb dX6_wetInAll_4 rfl (lv_at hl 0 rfl) ?_
  refine lv_aload_n hx hb dX6_wetInAll_5 rfl (lv_at hl 2 rfl) ?_
  refine va_get (D := D) (ci := 5) (v := .int (y 0)) (C := RX6) (T := TX6) (N := 16) hx hb hts inlX6 hown hK hP 0 rfl rfl 0 (by decide) (hts _ mw_152) (fun _ h9 => h9) rfl dX6_wetInAll_6 ?_
  refine lv_icmp_ge (tgt := 56) hx hb dX6_wetInAll_9 (by decide) (fun c_4 => ?_) (fun c_4 => ?_)
  · have c_4 : (y 0).toInt ≤ i_1.toInt := ti_le c_4
    refine lv_iload_n hx hb dX6_wetInAll_56 rfl (lv_at hl 1 rfl) ?_
    exact W.iret (v := y_2) hx hb hr (fun t ht hW => ⟨y_2, rfl, trivial, ht⟩) (fun q h => by cases h) dX6_wetInAll_57
  · have c_4 : i_1.toInt < (y 0).toInt := ti_nle c_4
    refine lv_iconst (v := 0) hx hb dX6_wetInAll_12 (by decide) ?_
    refine lv_istore_n (lv' := [(3, .int 0), (2, .int i_1), (1, .int y_2), (0, .ref (w 0))]) hx hb dX6_wetInAll_13 rfl hl (by decide) rfl (fun ls hl => ?_)
    refine W_loop (σ := Int32 × Int32) (fun xx H locs ls => (0 ≤ xx.1.toInt ∧ xx.1.toInt ≤ 6) ∧ va_P D vwCl [((w 0), .inr (5, [.int (y 0), .int (y 1), .int (y 2), .int (y 3), .int (y 4), .int (y 5), .int (y 6), .int (y 7), .int (y 8), .int (y 9), .int (y 10), .ref (w 1), .ref (w 2), .ref (w 3), .ref (w 4), .ref (w 5)])), ((w 1), .inl (k 0, 10, .inl (g 1))), ((w 3), .inl (k 0, 60, .inl (g 3)))] H ∧ H = s.heap ∧ locs = [] ∧ lv_has ls 4 [(3, .int xx.1), (2, .int i_1), (1, .int xx.2), (0, .ref (w 0))]) (fun xx => (6 - xx.1.toInt).toNat) ?_ (0, y_2) _ _ ls ⟨(show 0 ≤ (0 : Int32).toInt ∧ (0 : Int32).toInt ≤ 6 from ⟨by decide, by decide⟩), hP.sub [0, 1, 2] rfl, rfl, rfl, lv_sub hl [0, 1, 2, 3] rfl⟩
    intro xx H locs ls hI ih14
    obtain ⟨i_5, y_6⟩ := xx
    obtain ⟨h_7, hP, rfl, rfl, hl⟩ := hI
    have h_7 : 0 ≤ i_5.toInt ∧ i_5.toInt ≤ 6 := h_7
    obtain ⟨h_7a, h_7b⟩ := h_7
    have hP : va_P D vwCl [((w 0), .inr (5, [.int (y 0), .int (y 1), .int (y 2), .int (y 3), .int (y 4), .int (y 5), .int (y 6), .int (y 7), .int (y 8), .int (y 9), .int (y 10), .ref (w 1), .ref (w 2), .ref (w 3), .ref (w 4), .ref (w 5)])), ((w 1), .inl (k 0, 10, .inl (g 1))), ((w 3), .inl (k 0, 60, .inl (g 3)))] s.heap := hP
    have hl : lv_has ls 4 [(3, .int i_5), (2, .int i_1), (1, .int y_6), (0, .ref (w 0))] := hl
    refine lv_iload_n hx hb dX6_wetInAll_14 rfl (lv_at hl 0 rfl) ?_
    refine lv_aload_n hx hb dX6_wetInAll_15 rfl (lv_at hl 3 rfl) ?_
    refine va_get (D := D) (ci := 5) (v := .ref (w 1)) (C := RX6) (T := TX6) (N := 16) hx hb hts inlX6 hown hK hP 0 rfl rfl 11 (by decide) (hts _ mw_58) (fun _ h9 => h9) rfl dX6_wetInAll_16 ?_
    refine lv_iload_n hx hb dX6_wetInAll_19 rfl (lv_at hl 1 rfl) ?_
    refine va_iald hx hb hK hP 1 0 rfl rfl (vp_in_o (by omega) (by omega)) dX6_wetInAll_20 ?_
    refine lv_topi (fun z_8 ez_8 => ?_)
    have bz_8 : 0 ≤ z_8.toInt ∧ z_8.toInt ≤ 6 := by rw [ez_8]; exact w_hd _
    refine lv_icmp_ge (tgt := 50) hx hb dX6_wetInAll_21 (by decide) (fun c_9 => ?_) (fun c_9 => ?_)
    · have c_9 : z_8.toInt ≤ i_5.toInt := ti_le c_9
      obtain ⟨z_10, ez_10⟩ : ∃ y : Int32, y = i_1 + 1 := ⟨_, rfl⟩
      have tz_10 : z_10.toInt = i_1.toInt + 1 := by rw [ez_10]; exact ti_addc (by decide) (by omega) (by omega)
      refine lv_iinc (v := z_10) (lv' := [(2, .int z_10), (3, .int i_5), (1, .int y_6), (0, .ref (w 0))]) hx hb dX6_wetInAll_50 hl (k := 1) rfl (ez_10.symm) (by decide) rfl (fun ls hl => ?_)
      refine lv_goto (tgt := 4) hx hb dX6_wetInAll_53 (by decide) ?_
      exact ih4 (z_10, y_6) _ _ ls (by show (10 - z_10.toInt).toNat < (10 - i_1.toInt).toNat; omega) ⟨(show 0 ≤ z_10.toInt ∧ z_10.toInt ≤ 10 from ⟨by omega, by omega⟩), hP.sub [0, 1, 2] rfl, rfl, rfl, lv_sub hl [0, 2, 3] rfl⟩
    · have c_9 : i_5.toInt < z_8.toInt := ti_nle c_9
      refine lv_iload_n hx hb dX6_wetInAll_24 rfl (lv_at hl 2 rfl) ?_
      refine lv_aload_n hx hb dX6_wetInAll_25 rfl (lv_at hl 3 rfl) ?_
      refine lv_iload_n hx hb dX6_wetInAll_26 rfl (lv_at hl 1 rfl) ?_
      refine lv_iload_n hx hb dX6_wetInAll_27 rfl (lv_at hl 0 rfl) ?_
      refine kV_i (q0 := 0) (As := [.int i_1, .int i_5]) (rest := [.int y_6]) ⟨hx, hb, hml, hown, hts⟩ (s_W_layerAt l D k _ y g i_1 i_5 (show 0 ≤ (y 0).toInt ∧ (y 0).toInt ≤ 10 from ⟨by omega, by omega⟩) (show 0 ≤ (y 2).toInt ∧ (y 2).toInt ≤ 6 from ⟨by omega, by omega⟩) (show 0 ≤ (y 6).toInt ∧ (y 6).toInt ≤ 1 from ⟨by omega, by omega⟩) (show 0 ≤ i_1.toInt ∧ i_1.toInt ≤ 9 from ⟨by omega, by omega⟩) (show 0 ≤ i_5.toInt ∧ i_5.toInt ≤ 5 from ⟨by omega, by omega⟩)) (gV mw_383 mw_384 mw_385 mw_19 mw_386) hd_yX6_layerAt rfl rfl ⟨Nat.le_of_ble_eq_true rfl, Nat.le_of_ble_eq_true rfl⟩ hK hN0 (hP.sub [0, 2] rfl) rfl rfl rfl rfl hl.1 rfl (Nat.le_of_ble_eq_true rfl) dX6_wetInAll_28 ⟨Nat.le_of_ble_eq_true rfl, Nat.le_of_ble_eq_true rfl⟩ (fun r_11 hr_11 => ?_)
      refine kS_i (As := [.int r_11]) (rest := [.int y_6]) ⟨hx, hb, hml, hown, hts⟩ (s_L_isWet l D k r_11) (gS mw_556 mw_445 mw_254 mw_446) hd_yX1_isWet rfl rfl ⟨Nat.le_of_ble_eq_true rfl, Nat.le_of_ble_eq_true rfl⟩ hK hN0 (hP.sub [] rfl) rfl hl.1 rfl (Nat.le_of_ble_eq_true rfl) dX6_wetInAll_31 ⟨Nat.le_of_ble_eq_true rfl, Nat.le_of_ble_eq_true rfl⟩ (fun r_12 hr_12 => ?_)
      have hr_12 : 0 ≤ r_12.toInt ∧ r_12.toInt ≤ 1 := hr_12
      refine lv_if_eq (tgt := 41) hx hb dX6_wetInAll_34 (by decide) (fun c_13 => ?_) (fun c_13 => ?_)
      · have c_13 : r_12.toInt = 0 := ti_eq c_13
        have qc_13 : r_12 = 0 := ti_of (show r_12.toInt = 0 from by omega)
        refine lv_iconst (v := 0) hx hb dX6_wetInAll_41 (by decide) ?_
        refine lv_iadd hx hb dX6_wetInAll_42 ?_
        refine lv_ni (v := y_6) (iadd_0 _) ?_
        refine lv_istore_n (lv' := [(1, .int y_6), (3, .int i_5), (2, .int i_1), (0, .ref (w 0))]) hx hb dX6_wetInAll_43 rfl hl (by decide) rfl (fun ls hl => ?_)
        obtain ⟨z_14, ez_14⟩ : ∃ y : Int32, y = i_5 + 1 := ⟨_, rfl⟩
        have tz_14 : z_14.toInt = i_5.toInt + 1 := by rw [ez_14]; exact ti_addc (by decide) (by omega) (by omega)
        refine lv_iinc (v := z_14) (lv' := [(3, .int z_14), (1, .int y_6), (2, .int i_1), (0, .ref (w 0))]) hx hb dX6_wetInAll_44 hl (k := 1) rfl (ez_14.symm) (by decide) rfl (fun ls hl => ?_)
        refine lv_goto (tgt := 14) hx hb dX6_wetInAll_47 (by decide) ?_
        exact ih14 (z_14, y_6) _ _ ls (by show (6 - z_14.toInt).toNat < (6 - i_5.toInt).toNat; omega) ⟨(show 0 ≤ z_14.toInt ∧ z_14.toInt ≤ 6 from ⟨by omega, by omega⟩), hP.sub [0, 1, 2] rfl, rfl, rfl, lv_sub hl [0, 2, 1, 3] rfl⟩
      · have c_13 : r_12.toInt ≠ 0 := ti_ne c_13
        have qc_13 : r_12 = 1 := ti_of (show r_12.toInt = 1 from by omega)
        refine lv_iconst (v := 1) hx hb dX6_wetInAll_37 (by decide) ?_
        refine lv_goto (tgt := 42) hx hb dX6_wetInAll_38 (by decide) ?_
        refine lv_iadd hx hb dX6_wetInAll_42 ?_
        refine lv_topi (fun z_15 ez_15 => ?_)
        refine lv_istore_n (lv' := [(1, .int z_15), (3, .int i_5), (2, .int i_1), (0, .ref (w 0))]) hx hb dX6_wetInAll_43 rfl hl (by decide) rfl (fun ls hl => ?_)
        obtain ⟨z_16, ez_16⟩ : ∃ y : Int32, y = i_5 + 1 := ⟨_, rfl⟩
        have tz_16 : z_16.toInt = i_5.toInt + 1 := by rw [ez_16]; exact ti_addc (by decide) (by omega) (by omega)
        refine lv_iinc (v := z_16) (lv' := [(3, .int z_16), (1, .int z_15), (2, .int i_1), (0, .ref (w 0))]) hx hb dX6_wetInAll_44 hl (k := 1) rfl (ez_16.symm) (by decide) rfl (fun ls hl => ?_)
        refine lv_goto (tgt := 14) hx hb dX6_wetInAll_47 (by decide) ?_
        exact ih14 (z_16, z_15) _ _ ls (by show (6 - z_16.toInt).toNat < (6 - i_5.toInt).toNat; omega) ⟨(show 0 ≤ z_16.toInt ∧ z_16.toInt ≤ 6 from ⟨by omega, by omega⟩), hP.sub [0, 1, 2] rfl, rfl, rfl, lv_sub hl [0, 2, 1, 3] rfl⟩
set_option maxHeartbeats 4000000 in
set_option maxRecDepth 100000 in
theorem s_W_roofsWithLayersFrom (l : Launch) (D : va_G) (k : Nat → ClassId) (w : Nat → Nat) (y : Nat → Int32) (g : Nat → Nat → Int32) (x : Int32) (w_h0 : 0 ≤ (y 0).toInt ∧ (y 0).toInt ≤ 10) (w_h2 : 0 ≤ (y 2).toInt ∧ (y 2).toInt ≤ 6) (w_h6 : 0 ≤ (y 6).toInt ∧ (y 6).toInt ≤ 1) (w_hd : ∀ j : Nat, 0 ≤ ((g 1) j).toInt ∧ ((g 1) j).toInt ≤ 6) : Met l yX6_roofsWithLayersFrom (Cond.code yX6_roofsWithLayersFrom cX6_roofsWithLayersFrom 5 (some .int) :: wsL_law) ({ frames := 1, cells := 0, slots := 0, locals := 60 } : Room) (va_Pc [.ref (w 0), .int x] (pr D k [((w 0), .inr (5, [.int (y 0), .int (y 1), .int (y 2), .int (y 3), .int (y 4), .int (y 5), .int (y 6), .int (y 7), .int (y 8), .int (y 9), .int (y 10), .ref (w 1), .ref (w 2), .ref (w 3), .ref (w 4), .ref (w 5)])), ((w 1), .inl (k 0, 10, .inl (g 1))), ((w 3), .inl (k 0, 60, .inl (g 3)))])) (vp_Si (fun rr => True)) 0 0 (fun _ => False) := by
  refine Met.ofW (cc := cX6_roofsWithLayersFrom) (maxL := 5) (ret := (some .int)) (by decide) rfl ?_
  intro p e s m args below meth c s₁ B hml hv
  obtain ⟨rfl, hP, hK, hN0⟩ := hv
  have hx := B.exec
  have hb := B.bytes
  have hr := B.returns
  have hts : ∀ w ∈ wsL_law, w.before _ s = true := fun w h => atoms_spec (ws := Cond.code yX6_roofsWithLayersFrom cX6_roofsWithLayersFrom 5 (some .int) :: wsL_law) B.pre w (List.mem_cons_of_mem _ h)
  have hown : s.vm.findClass RX6 = some m.cls := findClass_of_methodNamed B.named
  have hlocks := B.notSynchronized
  have hP : va_P D vwCl [((w 0), .inr (5, [.int (y 0), .int (y 1), .int (y 2), .int (y 3), .int (y 4), .int (y 5), .int (y 6), .int (y 7), .int (y 8), .int (y 9), .int (y 10), .ref (w 1), .ref (w 2), .ref (w 3), .ref (w 4), .ref (w 5)])), ((w 1), .inl (k 0, 10, .inl (g 1))), ((w 3), .inl (k 0, 60, .inl (g 3)))] s.heap := hP
  have hl := lv_entry ([.ref (w 0), .int x]) (n := 5) (Nat.le_of_ble_eq_true rfl)
  rw [lg_entry_eq]
  generalize (lg_sl ([.ref (w 0), .int x]) ++ List.replicate (5 - (lg_sl ([.ref (w 0), .int x])).length) Slot.unset).toArray = ls at hl ⊢
  have hl : lv_has ls 5 [(0, .ref (w 0)), (1, .int x)] := hl
  refine lv_iconst (v := 0) hx hb dX6_roofsWithLayersFrom_0 (by decide) ?_
  refine lv_istore_n (lv' := [(2, .int 0), (0, .ref (w 0)), (1, .int x)]) hx hb dX6_roofsWithLayersFrom_1 rfl hl (by decide) rfl (fun ls hl => ?_)
  refine lv_iconst (v := 0) hx hb dX6_roofsWithLayersFrom_2 (by decide) ?_
  refine lv_istore_n (lv' := [(3, .int 0), (2, .int 0), (0, .ref (w 0)), (1, .int x)]) hx hb dX6_roofsWithLayersFrom_3 rfl hl (by decide) rfl (fun ls hl => ?_)
  refine W_loop (σ := Int32 × Int32) (fun xx H locs ls => (0 ≤ xx.1.toInt ∧ xx.1.toInt ≤ 10) ∧ va_P D vwCl [((w 0), .inr (5, [.int (y 0), .int (y 1), .int (y 2), .int (y 3), .int (y 4), .int (y 5), .int (y 6), .int (y 7), .int (y 8), .int (y 9), .int (y 10), .ref (w 1), .ref (w 2), .ref (w 3), .ref (w 4), .ref (w 5)])), ((w 1), .inl (k 0, 10, .inl (g 1))), ((w 3), .inl (k 0, 60, .inl (g 3)))] H ∧ H = s.heap ∧ locs = [] ∧ lv_has ls 5 [(3, .int xx.1), (2, .int xx.2), (0, .ref (w 0)), (1, .int x)]) (fun xx => (10 - xx.1.toInt).toNat) ?_ (0, 0) _ _ ls ⟨(show 0 ≤ (0 : Int32).toInt ∧ (0 : Int32).toInt ≤ 10 from ⟨by decide, by decide⟩), hP.sub [0, 1, 2] rfl, rfl, rfl, lv_sub hl [0, 1, 2, 3] rfl⟩
  intro xx H locs ls hI ih4
  obtain ⟨i_1, y_2⟩ := xx
  obtain ⟨h_3, hP, rfl, rfl, hl⟩ := hI
  have h_3 : 0 ≤ i_1.toInt ∧ i_1.toInt ≤ 10 := h_3
  obtain ⟨h_3a, h_3b⟩ := h_3
  have hP : va_P D vwCl [((w 0), .inr (5, [.int (y 0), .int (y 1), .int (y 2), .int (y 3), .int (y 4), .int (y 5), .int (y 6), .int (y 7), .int (y 8), .int (y 9), .int (y 10), .ref (w 1), .ref (w 2), .ref (w 3), .ref (w 4), .ref (w 5)])), ((w 1), .inl (k 0, 10, .inl (g 1))), ((w 3), .inl (k 0, 60, .inl (g 3)))] s.heap := hP
  have hl : lv_has ls 5 [(3, .int i_1), (2, .int y_2), (0, .ref (w 0)), (1, .int x)] := hl
  refine lv_iload_n hx hb dX6_roofsWithLayersFrom_4 rfl (lv_at hl 0 rfl) ?_
  refine lv_aload_n hx hb dX6_roofsWithLayersFrom_5 rfl (lv_at hl 2 rfl) ?_
  refine va_get (D := D) (ci := 5) (v := .int (y 0)) (C := RX6) (T := TX6) (N := 16) hx hb hts inlX6 hown hK hP 0 rfl rfl 0 (by decide) (hts _ mw_152) (fun _ h9 => h9) rfl dX6_roofsWithLayersFrom_6 ?_
  refine lv_icmp_ge (tgt := 62) hx hb dX6_roofsWithLayersFrom_9 (by decide) (fun c_4 => ?_) (fun c_4 => ?_)
  · have c_4 : (y 0).toInt ≤ i_1.toInt := ti_le c_4
    refine lv_iload_n hx hb dX6_roofsWithLayersFrom_62 rfl (lv_at hl 1 rfl) ?_
    exact W.iret (v := y_2) hx hb hr (fun t ht hW => ⟨y_2, rfl, trivial, ht⟩) (fun q h => by cases h) dX6_roofsWithLayersFrom_63
  · have c_4 : i_1.toInt < (y 0).toInt := ti_nle c_4
    refine lv_iconst (v := 0) hx hb dX6_roofsWithLayersFrom_12 (by decide) ?_
    refine lv_istore (lv' := [(4, .int 0), (3, .int i_1), (2, .int y_2), (0, .ref (w 0)), (1, .int x)]) hx hb dX6_roofsWithLayersFrom_13 hl (by decide) rfl (fun ls hl => ?_)
    refine W_loop (σ := Int32 × Int32) (fun xx H locs ls => (0 ≤ xx.1.toInt ∧ xx.1.toInt ≤ 6) ∧ va_P D vwCl [((w 0), .inr (5, [.int (y 0), .int (y 1), .int (y 2), .int (y 3), .int (y 4), .int (y 5), .int (y 6), .int (y 7), .int (y 8), .int (y 9), .int (y 10), .ref (w 1), .ref (w 2), .ref (w 3), .ref (w 4), .ref (w 5)])), ((w 1), .inl (k 0, 10, .inl (g 1))), ((w 3), .inl (k 0, 60, .inl (g 3)))] H ∧ H = s.heap ∧ locs = [] ∧ lv_has ls 5 [(4, .int xx.1), (3, .int i_1), (2, .int xx.2), (0, .ref (w 0)), (1, .int x)]) (fun xx => (6 - xx.1.toInt).toNat) ?_ (0, y_2) _ _ ls ⟨(show 0 ≤ (0 : Int32).toInt ∧ (0 : Int32).toInt ≤ 6 from ⟨by decide, by decide⟩), hP.sub [0, 1, 2] rfl, rfl, rfl, lv_sub hl [0, 1, 2, 3, 4] rfl⟩
    intro xx H locs ls hI ih15
    obtain ⟨i_5, y_6⟩ := xx
    obtain ⟨h_7, hP, rfl, rfl, hl⟩ := hI
    have h_7 : 0 ≤ i_5.toInt ∧ i_5.toInt ≤ 6 := h_7
    obtain ⟨h_7a, h_7b⟩ := h_7
    have hP : va_P D vwCl [((w 0), .inr (5, [.int (y 0), .int (y 1), .int (y 2), .int (y 3), .int (y 4), .int (y 5), .int (y 6), .int (y 7), .int (y 8), .int (y 9), .int (y 10), .ref (w 1), .ref (w 2), .ref (w 3), .ref (w 4), .ref (w 5)])), ((w 1), .inl (k 0, 10, .inl (g 1))), ((w 3), .inl (k 0, 60, .inl (g 3)))] s.heap := hP
    have hl : lv_has ls 5 [(4, .int i_5), (3, .int i_1), (2, .int y_6), (0, .ref (w 0)), (1, .int x)] := hl
    refine lv_iload hx hb dX6_roofsWithLayersFrom_15 (lv_at hl 0 rfl) ?_
    refine lv_aload_n hx hb dX6_roofsWithLayersFrom_17 rfl (lv_at hl 3 rfl) ?_
    refine va_get (D := D) (ci := 5) (v := .ref (w 1)) (C := RX6) (T := TX6) (N := 16) hx hb hts inlX6 hown hK hP 0 rfl rfl 11 (by decide) (hts _ mw_58) (fun _ h9 => h9) rfl dX6_roofsWithLayersFrom_18 ?_
    refine lv_iload_n hx hb dX6_roofsWithLayersFrom_21 rfl (lv_at hl 1 rfl) ?_
    refine va_iald hx hb hK hP 1 0 rfl rfl (vp_in_o (by omega) (by omega)) dX6_roofsWithLayersFrom_22 ?_
    refine lv_topi (fun z_8 ez_8 => ?_)
    have bz_8 : 0 ≤ z_8.toInt ∧ z_8.toInt ≤ 6 := by rw [ez_8]; exact w_hd _
    refine lv_icmp_ge (tgt := 56) hx hb dX6_roofsWithLayersFrom_23 (by decide) (fun c_9 => ?_) (fun c_9 => ?_)
    · have c_9 : z_8.toInt ≤ i_5.toInt := ti_le c_9
      obtain ⟨z_10, ez_10⟩ : ∃ y : Int32, y = i_1 + 1 := ⟨_, rfl⟩
      have tz_10 : z_10.toInt = i_1.toInt + 1 := by rw [ez_10]; exact ti_addc (by decide) (by omega) (by omega)
      refine lv_iinc (v := z_10) (lv' := [(3, .int z_10), (4, .int i_5), (2, .int y_6), (0, .ref (w 0)), (1, .int x)]) hx hb dX6_roofsWithLayersFrom_56 hl (k := 1) rfl (ez_10.symm) (by decide) rfl (fun ls hl => ?_)
      refine lv_goto (tgt := 4) hx hb dX6_roofsWithLayersFrom_59 (by decide) ?_
      exact ih4 (z_10, y_6) _ _ ls (by show (10 - z_10.toInt).toNat < (10 - i_1.toInt).toNat; omega) ⟨(show 0 ≤ z_10.toInt ∧ z_10.toInt ≤ 10 from ⟨by omega, by omega⟩), hP.sub [0, 1, 2] rfl, rfl, rfl, lv_sub hl [0, 2, 3, 4] rfl⟩
    · have c_9 : i_5.toInt < z_8.toInt := ti_nle c_9
      refine lv_iload_n hx hb dX6_roofsWithLayersFrom_26 rfl (lv_at hl 2 rfl) ?_
      refine lv_aload_n hx hb dX6_roofsWithLayersFrom_27 rfl (lv_at hl 3 rfl) ?_
      refine lv_iload_n hx hb dX6_roofsWithLayersFrom_28 rfl (lv_at hl 1 rfl) ?_
      refine lv_iload hx hb dX6_roofsWithLayersFrom_29 (lv_at hl 0 rfl) ?_
      refine kV_i (q0 := 0) (As := [.int i_1, .int i_5]) (rest := [.int y_6]) ⟨hx, hb, hml, hown, hts⟩ (s_W_layerAt l D k _ y g i_1 i_5 (show 0 ≤ (y 0).toInt ∧ (y 0).toInt ≤ 10 from ⟨by omega, by omega⟩) (show 0 ≤ (y 2).toInt ∧ (y 2).toInt ≤ 6 from ⟨by omega, by omega⟩) (show 0 ≤ (y 6).toInt ∧ (y 6).toInt ≤ 1 from ⟨by omega, by omega⟩) (show 0 ≤ i_1.toInt ∧ i_1.toInt ≤ 9 from ⟨by omega, by omega⟩) (show 0 ≤ i_5.toInt ∧ i_5.toInt ≤ 5 from ⟨by omega, by omega⟩)) (gV mw_383 mw_384 mw_385 mw_19 mw_386) hd_yX6_layerAt rfl rfl ⟨Nat.le_of_ble_eq_true rfl, Nat.le_of_ble_eq_true rfl⟩ hK hN0 (hP.sub [0, 2] rfl) rfl rfl rfl rfl hl.1 rfl (Nat.le_of_ble_eq_true rfl) dX6_roofsWithLayersFrom_31 ⟨Nat.le_of_ble_eq_true rfl, Nat.le_of_ble_eq_true rfl⟩ (fun r_11 hr_11 => ?_)
      refine kS_i (As := [.int r_11]) (rest := [.int y_6]) ⟨hx, hb, hml, hown, hts⟩ (s_L_fromOf l D k r_11) (gS mw_657 mw_452 mw_254 mw_453) hd_yX1_fromOf rfl rfl ⟨Nat.le_of_ble_eq_true rfl, Nat.le_of_ble_eq_true rfl⟩ hK hN0 (hP.sub [] rfl) rfl hl.1 rfl (Nat.le_of_ble_eq_true rfl) dX6_roofsWithLayersFrom_34 ⟨Nat.le_of_ble_eq_true rfl, Nat.le_of_ble_eq_true rfl⟩ (fun r_12 hr_12 => ?_)
      refine lv_iload_n hx hb dX6_roofsWithLayersFrom_37 rfl (lv_at hl 4 rfl) ?_
      refine lv_icmp_ne (tgt := 47) hx hb dX6_roofsWithLayersFrom_38 (by decide) (fun c_13 => ?_) (fun c_13 => ?_)
      · have c_13 : r_12.toInt ≠ x.toInt := ti_ne c_13
        refine lv_iconst (v := 0) hx hb dX6_roofsWithLayersFrom_47 (by decide) ?_
        refine lv_ior hx hb dX6_roofsWithLayersFrom_48 ?_
        refine lv_ni (v := y_6) (ior_0 _) ?_
        refine lv_istore_n (lv' := [(2, .int y_6), (4, .int i_5), (3, .int i_1), (0, .ref (w 0)), (1, .int x)]) hx hb dX6_roofsWithLayersFrom_49 rfl hl (by decide) rfl (fun ls hl => ?_)
        obtain ⟨z_14, ez_14⟩ : ∃ y : Int32, y = i_5 + 1 := ⟨_, rfl⟩
        have tz_14 : z_14.toInt = i_5.toInt + 1 := by rw [ez_14]; exact ti_addc (by decide) (by omega) (by omega)
        refine lv_iinc (v := z_14) (lv' := [(4, .int z_14), (2, .int y_6), (3, .int i_1), (0, .ref (w 0)), (1, .int x)]) hx hb dX6_roofsWithLayersFrom_50 hl (k := 1) rfl (ez_14.symm) (by decide) rfl (fun ls hl => ?_)
        refine lv_goto (tgt := 15) hx hb dX6_roofsWithLayersFrom_53 (by decide) ?_
        exact ih15 (z_14, y_6) _ _ ls (by show (6 - z_14.toInt).toNat < (6 - i_5.toInt).toNat; omega) ⟨(show 0 ≤ z_14.toInt ∧ z_14.toInt ≤ 6 from ⟨by omega, by omega⟩), hP.sub [0, 1, 2] rfl, rfl, rfl, lv_sub hl [0, 2, 1, 3, 4] rfl⟩
      · have c_13 : r_12.toInt = x.toInt := ti_eq c_13
        refine lv_iconst (v := 1) hx hb dX6_roofsWithLayersFrom_41 (by decide) ?_
        refine lv_iload_n hx hb dX6_roofsWithLayersFrom_42 rfl (lv_at hl 1 rfl) ?_
        refine lv_ishl hx hb dX6_roofsWithLayersFrom_43 ?_
        refine lv_topi (fun z_15 ez_15 => ?_)
        refine lv_goto (tgt := 48) hx hb dX6_roofsWithLayersFrom_44 (by decide) ?_
        refine lv_ior hx hb dX6_roofsWithLayersFrom_48 ?_
        refine lv_topi (fun z_16 ez_16 => ?_)
        refine lv_istore_n (lv' := [(2, .int z_16), (4, .int i_5), (3, .int i_1), (0, .ref (w 0)), (1, .int x)]) hx hb dX6_roofsWithLayersFrom_49 rfl hl (by decide) rfl (fun ls hl => ?_)
        obtain ⟨z_17, ez_17⟩ : ∃ y : Int32, y = i_5 + 1 := ⟨_, rfl⟩
        have tz_17 : z_17.toInt = i_5.toInt + 1 := by rw [ez_17]; exact ti_addc (by decide) (by omega) (by omega)
        refine lv_iinc (v := z_17) (lv' := [(4, .int z_17), (2, .int z_16), (3, .int i_1), (0, .ref (w 0)), (1, .int x)]) hx hb dX6_roofsWithLayersFrom_50 hl (k := 1) rfl (ez_17.symm) (by decide) rfl (fun ls hl => ?_)
        refine lv_goto (tgt := 15) hx hb dX6_roofsWithLayersFrom_53 (by decide) ?_
        exact ih15 (z_17, z_16) _ _ ls (by show (6 - z_17.toInt).toNat < (6 - i_5.toInt).toNat; omega) ⟨(show 0 ≤ z_17.toInt ∧ z_17.toInt ≤ 6 from ⟨by omega, by omega⟩), hP.sub [0, 1, 2] rfl, rfl, rfl, lv_sub hl [0, 2, 1, 3, 4] rfl⟩
set_option maxHeartbeats 4000000 in
set_option maxRecDepth 100000 in
theorem s_W_sourcesOfUnsound (l : Launch) (D : va_G) (k : Nat → ClassId) (w : Nat → Nat) (y : Nat → Int32) (g : Nat → Nat → Int32) (r : Int32) (w_h0 : 0 ≤ (y 0).toInt ∧ (y 0).toInt ≤ 10) (w_h2 : 0 ≤ (y 2).toInt ∧ (y 2).toInt ≤ 6) (w_h6 : 0 ≤ (y 6).toInt ∧ (y 6).toInt ≤ 1) (w_hd : ∀ j : Nat, 0 ≤ ((g 1) j).toInt ∧ ((g 1) j).toInt ≤ 6) (w_hr : 0 ≤ r.toInt ∧ r.toInt ≤ 9) : Met l yX6_sourcesOfUnsound (Cond.code yX6_sourcesOfUnsound cX6_sourcesOfUnsound 5 (some .int) :: wsL_law) ({ frames := 2, cells := 0, slots := 0, locals := 120 } : Room) (va_Pc [.ref (w 0), .int r] (pr D k [((w 0), .inr (5, [.int (y 0), .int (y 1), .int (y 2), .int (y 3), .int (y 4), .int (y 5), .int (y 6), .int (y 7), .int (y 8), .int (y 9), .int (y 10), .ref (w 1), .ref (w 2), .ref (w 3), .ref (w 4), .ref (w 5)])), ((w 1), .inl (k 0, 10, .inl (g 1))), ((w 3), .inl (k 0, 60, .inl (g 3)))])) (vp_Si (fun rr => True)) 0 0 (fun _ => False) := by
  refine Met.ofW (cc := cX6_sourcesOfUnsound) (maxL := 5) (ret := (some .int)) (by decide) rfl ?_
  intro p e s m args below meth c s₁ B hml hv
  obtain ⟨rfl, hP, hK, hN0⟩ := hv
  have hx := B.exec
  have hb := B.bytes
  have hr := B.returns
  have hts : ∀ w ∈ wsL_law, w.before _ s = true := fun w h => atoms_spec (ws := Cond.code yX6_sourcesOfUnsound cX6_sourcesOfUnsound 5 (some .int) :: wsL_law) B.pre w (List.mem_cons_of_mem _ h)
  have hown : s.vm.findClass RX6 = some m.cls := findClass_of_methodNamed B.named
  have hlocks := B.notSynchronized
  have hP : va_P D vwCl [((w 0), .inr (5, [.int (y 0), .int (y 1), .int (y 2), .int (y 3), .int (y 4), .int (y 5), .int (y 6), .int (y 7), .int (y 8), .int (y 9), .int (y 10), .ref (w 1), .ref (w 2), .ref (w 3), .ref (w 4), .ref (w 5)])), ((w 1), .inl (k 0, 10, .inl (g 1))), ((w 3), .inl (k 0, 60, .inl (g 3)))] s.heap := hP
  have hl := lv_entry ([.ref (w 0), .int r]) (n := 5) (Nat.le_of_ble_eq_true rfl)
  rw [lg_entry_eq]
  generalize (lg_sl ([.ref (w 0), .int r]) ++ List.replicate (5 - (lg_sl ([.ref (w 0), .int r])).length) Slot.unset).toArray = ls at hl ⊢
  have hl : lv_has ls 5 [(0, .ref (w 0)), (1, .int r)] := hl
  refine lv_iconst (v := 0) hx hb dX6_sourcesOfUnsound_0 (by decide) ?_
  refine lv_istore_n (lv' := [(2, .int 0), (0, .ref (w 0)), (1, .int r)]) hx hb dX6_sourcesOfUnsound_1 rfl hl (by decide) rfl (fun ls hl => ?_)
  refine lv_iconst (v := 0) hx hb dX6_sourcesOfUnsound_2 (by decide) ?_
  refine lv_istore_n (lv' := [(3, .int 0), (2, .int 0), (0, .ref (w 0)), (1, .int r)]) hx hb dX6_sourcesOfUnsound_3 rfl hl (by decide) rfl (fun ls hl => ?_)
  refine W_loop (σ := Int32 × Int32) (fun xx H locs ls => (0 ≤ xx.1.toInt ∧ xx.1.toInt ≤ 6) ∧ va_P D vwCl [((w 0), .inr (5, [.int (y 0), .int (y 1), .int (y 2), .int (y 3), .int (y 4), .int (y 5), .int (y 6), .int (y 7), .int (y 8), .int (y 9), .int (y 10), .ref (w 1), .ref (w 2), .ref (w 3), .ref (w 4), .ref (w 5)])), ((w 1), .inl (k 0, 10, .inl (g 1))), ((w 3), .inl (k 0, 60, .inl (g 3)))] H ∧ H = s.heap ∧ locs = [] ∧ lv_has ls 5 [(3, .int xx.1), (2, .int xx.2), (0, .ref (w 0)), (1, .int r)]) (fun xx => (6 - xx.1.toInt).toNat) ?_ (0, 0) _ _ ls ⟨(show 0 ≤ (0 : Int32).toInt ∧ (0 : Int32).toInt ≤ 6 from ⟨by decide, by decide⟩), hP.sub [0, 1, 2] rfl, rfl, rfl, lv_sub hl [0, 1, 2, 3] rfl⟩
  intro xx H locs ls hI ih4
  obtain ⟨i_1, y_2⟩ := xx
  obtain ⟨h_3, hP, rfl, rfl, hl⟩ := hI
  have h_3 : 0 ≤ i_1.toInt ∧ i_1.toInt ≤ 6 := h_3
  obtain ⟨h_3a, h_3b⟩ := h_3
  have hP : va_P D vwCl [((w 0), .inr (5, [.int (y 0), .int (y 1), .int (y 2), .int (y 3), .int (y 4), .int (y 5), .int (y 6), .int (y 7), .int (y 8), .int (y 9), .int (y 10), .ref (w 1), .ref (w 2), .ref (w 3), .ref (w 4), .ref (w 5)])), ((w 1), .inl (k 0, 10, .inl (g 1))), ((w 3), .inl (k 0, 60, .inl (g 3)))] s.heap := hP
  have hl : lv_has ls 5 [(3, .int i_1), (2, .int y_2), (0, .ref (w 0)), (1, .int r)] := hl
  refine lv_iload_n hx hb dX6_sourcesOfUnsound_4 rfl (lv_at hl 0 rfl) ?_
  refine lv_aload_n hx hb dX6_sourcesOfUnsound_5 rfl (lv_at hl 2 rfl) ?_
  refine va_get (D := D) (ci := 5) (v := .ref (w 1)) (C := RX6) (T := TX6) (N := 16) hx hb hts inlX6 hown hK hP 0 rfl rfl 11 (by decide) (hts _ mw_58) (fun _ h9 => h9) rfl dX6_sourcesOfUnsound_6 ?_
  refine lv_iload_n hx hb dX6_sourcesOfUnsound_9 rfl (lv_at hl 3 rfl) ?_
  refine va_iald hx hb hK hP 1 0 rfl rfl (vp_in_o (by omega) (by omega)) dX6_sourcesOfUnsound_10 ?_
  refine lv_topi (fun z_4 ez_4 => ?_)
  have bz_4 : 0 ≤ z_4.toInt ∧ z_4.toInt ≤ 6 := by rw [ez_4]; exact w_hd _
  refine lv_icmp_ge (tgt := 57) hx hb dX6_sourcesOfUnsound_11 (by decide) (fun c_5 => ?_) (fun c_5 => ?_)
  · have c_5 : z_4.toInt ≤ i_1.toInt := ti_le c_5
    refine lv_iload_n hx hb dX6_sourcesOfUnsound_57 rfl (lv_at hl 1 rfl) ?_
    exact W.iret (v := y_2) hx hb hr (fun t ht hW => ⟨y_2, rfl, trivial, ht⟩) (fun q h => by cases h) dX6_sourcesOfUnsound_58
  · have c_5 : i_1.toInt < z_4.toInt := ti_nle c_5
    refine lv_aload_n hx hb dX6_sourcesOfUnsound_14 rfl (lv_at hl 2 rfl) ?_
    refine lv_iload_n hx hb dX6_sourcesOfUnsound_15 rfl (lv_at hl 3 rfl) ?_
    refine lv_iload_n hx hb dX6_sourcesOfUnsound_16 rfl (lv_at hl 0 rfl) ?_
    refine kV_i (q0 := 0) (As := [.int r, .int i_1]) (rest := []) ⟨hx, hb, hml, hown, hts⟩ (s_W_layerAt l D k _ y g r i_1 (show 0 ≤ (y 0).toInt ∧ (y 0).toInt ≤ 10 from ⟨by omega, by omega⟩) (show 0 ≤ (y 2).toInt ∧ (y 2).toInt ≤ 6 from ⟨by omega, by omega⟩) (show 0 ≤ (y 6).toInt ∧ (y 6).toInt ≤ 1 from ⟨by omega, by omega⟩) (show 0 ≤ r.toInt ∧ r.toInt ≤ 9 from ⟨by omega, by omega⟩) (show 0 ≤ i_1.toInt ∧ i_1.toInt ≤ 5 from ⟨by omega, by omega⟩)) (gV mw_383 mw_384 mw_385 mw_19 mw_386) hd_yX6_layerAt rfl rfl ⟨Nat.le_of_ble_eq_true rfl, Nat.le_of_ble_eq_true rfl⟩ hK hN0 (hP.sub [0, 2] rfl) rfl rfl rfl rfl hl.1 rfl (Nat.le_of_ble_eq_true rfl) dX6_sourcesOfUnsound_17 ⟨Nat.le_of_ble_eq_true rfl, Nat.le_of_ble_eq_true rfl⟩ (fun r_6 hr_6 => ?_)
    refine kS_i (As := [.int r_6]) (rest := []) ⟨hx, hb, hml, hown, hts⟩ (s_L_fromOf l D k r_6) (gS mw_657 mw_452 mw_254 mw_453) hd_yX1_fromOf rfl rfl ⟨Nat.le_of_ble_eq_true rfl, Nat.le_of_ble_eq_true rfl⟩ hK hN0 (hP.sub [] rfl) rfl hl.1 rfl (Nat.le_of_ble_eq_true rfl) dX6_sourcesOfUnsound_20 ⟨Nat.le_of_ble_eq_true rfl, Nat.le_of_ble_eq_true rfl⟩ (fun r_7 hr_7 => ?_)
    refine lv_istore (lv' := [(4, .int r_7), (3, .int i_1), (2, .int y_2), (0, .ref (w 0)), (1, .int r)]) hx hb dX6_sourcesOfUnsound_23 hl (by decide) rfl (fun ls hl => ?_)
    refine lv_iload hx hb dX6_sourcesOfUnsound_25 (lv_at hl 0 rfl) ?_
    refine lv_iconst (v := (-1)) hx hb dX6_sourcesOfUnsound_27 (by decide) ?_
    refine lv_icmp_eq (tgt := 51) hx hb dX6_sourcesOfUnsound_28 (by decide) (fun c_8 => ?_) (fun c_8 => ?_)
    · have c_8 : r_7.toInt = -1 := ti_eq c_8
      have qc_8 : r_7 = (-1) := ti_of (show r_7.toInt = (-1) from by omega)
      obtain ⟨z_9, ez_9⟩ : ∃ y : Int32, y = i_1 + 1 := ⟨_, rfl⟩
      have tz_9 : z_9.toInt = i_1.toInt + 1 := by rw [ez_9]; exact ti_addc (by decide) (by omega) (by omega)
      refine lv_iinc (v := z_9) (lv' := [(3, .int z_9), (4, .int r_7), (2, .int y_2), (0, .ref (w 0)), (1, .int r)]) hx hb dX6_sourcesOfUnsound_51 hl (k := 1) rfl (ez_9.symm) (by decide) rfl (fun ls hl => ?_)
      refine lv_goto (tgt := 4) hx hb dX6_sourcesOfUnsound_54 (by decide) ?_
      exact ih4 (z_9, y_2) _ _ ls (by show (6 - z_9.toInt).toNat < (6 - i_1.toInt).toNat; omega) ⟨(show 0 ≤ z_9.toInt ∧ z_9.toInt ≤ 6 from ⟨by omega, by omega⟩), hP.sub [0, 1, 2] rfl, rfl, rfl, lv_sub hl [0, 2, 3, 4] rfl⟩
    · have c_8 : r_7.toInt ≠ -1 := ti_ne c_8
      refine lv_aload_n hx hb dX6_sourcesOfUnsound_31 rfl (lv_at hl 3 rfl) ?_
      refine lv_aload_n hx hb dX6_sourcesOfUnsound_32 rfl (lv_at hl 3 rfl) ?_
      refine lv_iload_n hx hb dX6_sourcesOfUnsound_33 rfl (lv_at hl 4 rfl) ?_
      refine lv_iload_n hx hb dX6_sourcesOfUnsound_34 rfl (lv_at hl 1 rfl) ?_
      refine kV_i (q0 := 0) (As := [.int r, .int i_1]) (rest := [.ref (w 0)]) ⟨hx, hb, hml, hown, hts⟩ (s_W_layerAt l D k _ y g r i_1 (show 0 ≤ (y 0).toInt ∧ (y 0).toInt ≤ 10 from ⟨by omega, by omega⟩) (show 0 ≤ (y 2).toInt ∧ (y 2).toInt ≤ 6 from ⟨by omega, by omega⟩) (show 0 ≤ (y 6).toInt ∧ (y 6).toInt ≤ 1 from ⟨by omega, by omega⟩) (show 0 ≤ r.toInt ∧ r.toInt ≤ 9 from ⟨by omega, by omega⟩) (show 0 ≤ i_1.toInt ∧ i_1.toInt ≤ 5 from ⟨by omega, by omega⟩)) (gV mw_383 mw_384 mw_385 mw_19 mw_386) hd_yX6_layerAt rfl rfl ⟨Nat.le_of_ble_eq_true rfl, Nat.le_of_ble_eq_true rfl⟩ hK hN0 (hP.sub [0, 2] rfl) rfl rfl rfl rfl hl.1 rfl (Nat.le_of_ble_eq_true rfl) dX6_sourcesOfUnsound_35 ⟨Nat.le_of_ble_eq_true rfl, Nat.le_of_ble_eq_true rfl⟩ (fun r_10 hr_10 => ?_)
      refine kV_i (q0 := 0) (As := [.int r_10]) (rest := []) ⟨hx, hb, hml, hown, hts⟩ (s_W_isSound l D k _ y r_10 (show 0 ≤ (y 0).toInt ∧ (y 0).toInt ≤ 10 from ⟨by omega, by omega⟩) (show 0 ≤ (y 2).toInt ∧ (y 2).toInt ≤ 6 from ⟨by omega, by omega⟩) (show 0 ≤ (y 6).toInt ∧ (y 6).toInt ≤ 1 from ⟨by omega, by omega⟩)) (gV mw_387 mw_388 mw_389 mw_19 mw_390) hd_yX6_isSound rfl rfl ⟨Nat.le_of_ble_eq_true rfl, Nat.le_of_ble_eq_true rfl⟩ hK hN0 (hP.sub [0] rfl) rfl rfl rfl rfl hl.1 rfl (Nat.le_of_ble_eq_true rfl) dX6_sourcesOfUnsound_38 ⟨Nat.le_of_ble_eq_true rfl, Nat.le_of_ble_eq_true rfl⟩ (fun r_11 hr_11 => ?_)
      have hr_11 : 0 ≤ r_11.toInt ∧ r_11.toInt ≤ 1 := hr_11
      refine lv_if_ne (tgt := 51) hx hb dX6_sourcesOfUnsound_41 (by decide) (fun c_12 => ?_) (fun c_12 => ?_)
      · have c_12 : r_11.toInt ≠ 0 := ti_ne c_12
        have qc_12 : r_11 = 1 := ti_of (show r_11.toInt = 1 from by omega)
        obtain ⟨z_13, ez_13⟩ : ∃ y : Int32, y = i_1 + 1 := ⟨_, rfl⟩
        have tz_13 : z_13.toInt = i_1.toInt + 1 := by rw [ez_13]; exact ti_addc (by decide) (by omega) (by omega)
        refine lv_iinc (v := z_13) (lv' := [(3, .int z_13), (4, .int r_7), (2, .int y_2), (0, .ref (w 0)), (1, .int r)]) hx hb dX6_sourcesOfUnsound_51 hl (k := 1) rfl (ez_13.symm) (by decide) rfl (fun ls hl => ?_)
        refine lv_goto (tgt := 4) hx hb dX6_sourcesOfUnsound_54 (by decide) ?_
        exact ih4 (z_13, y_2) _ _ ls (by show (6 - z_13.toInt).toNat < (6 - i_1.toInt).toNat; omega) ⟨(show 0 ≤ z_13.toInt ∧ z_13.toInt ≤ 6 from ⟨by omega, by omega⟩), hP.sub [0, 1, 2] rfl, rfl, rfl, lv_sub hl [0, 2, 3, 4] rfl⟩
      · have c_12 : r_11.toInt = 0 := ti_eq c_12
        have qc_12 : r_11 = 0 := ti_of (show r_11.toInt = 0 from by omega)
        refine lv_iload_n hx hb dX6_sourcesOfUnsound_44 rfl (lv_at hl 2 rfl) ?_
        refine lv_iconst (v := 1) hx hb dX6_sourcesOfUnsound_45 (by decide) ?_
        refine lv_iload hx hb dX6_sourcesOfUnsound_46 (lv_at hl 0 rfl) ?_
        refine lv_ishl hx hb dX6_sourcesOfUnsound_48 ?_
        refine lv_topi (fun z_14 ez_14 => ?_)
        refine lv_ior hx hb dX6_sourcesOfUnsound_49 ?_
        refine lv_topi (fun z_15 ez_15 => ?_)
        refine lv_istore_n (lv' := [(2, .int z_15), (4, .int r_7), (3, .int i_1), (0, .ref (w 0)), (1, .int r)]) hx hb dX6_sourcesOfUnsound_50 rfl hl (by decide) rfl (fun ls hl => ?_)
        obtain ⟨z_16, ez_16⟩ : ∃ y : Int32, y = i_1 + 1 := ⟨_, rfl⟩
        have tz_16 : z_16.toInt = i_1.toInt + 1 := by rw [ez_16]; exact ti_addc (by decide) (by omega) (by omega)
        refine lv_iinc (v := z_16) (lv' := [(3, .int z_16), (2, .int z_15), (4, .int r_7), (0, .ref (w 0)), (1, .int r)]) hx hb dX6_sourcesOfUnsound_51 hl (k := 2) rfl (ez_16.symm) (by decide) rfl (fun ls hl => ?_)
        refine lv_goto (tgt := 4) hx hb dX6_sourcesOfUnsound_54 (by decide) ?_
        exact ih4 (z_16, z_15) _ _ ls (by show (6 - z_16.toInt).toNat < (6 - i_1.toInt).toNat; omega) ⟨(show 0 ≤ z_16.toInt ∧ z_16.toInt ≤ 6 from ⟨by omega, by omega⟩), hP.sub [0, 1, 2] rfl, rfl, rfl, lv_sub hl [0, 1, 3, 4] rfl⟩
set_option maxHeartbeats 4000000 in
set_option maxRecDepth 100000 in
theorem s_W_placeOfSpark (l : Launch) (D : va_G) (k : Nat → ClassId) (w : Nat → Nat) (y : Nat → Int32) (g : Nat → Nat → Int32) (x : Int32) (w_h0 : 0 ≤ (y 0).toInt ∧ (y 0).toInt ≤ 10) (w_h2 : 0 ≤ (y 2).toInt ∧ (y 2).toInt ≤ 6) (w_h6 : 0 ≤ (y 6).toInt ∧ (y 6).toInt ≤ 1) (w_hd : ∀ j : Nat, 0 ≤ ((g 1) j).toInt ∧ ((g 1) j).toInt ≤ 6) : Met l yX6_placeOfSpark (Cond.code yX6_placeOfSpark cX6_placeOfSpark 5 (some .int) :: wsL_law) ({ frames := 1, cells := 0, slots := 0, locals := 60 } : Room) (va_Pc [.ref (w 0), .int x] (pr D k [((w 0), .inr (5, [.int (y 0), .int (y 1), .int (y 2), .int (y 3), .int (y 4), .int (y 5), .int (y 6), .int (y 7), .int (y 8), .int (y 9), .int (y 10), .ref (w 1), .ref (w 2), .ref (w 3), .ref (w 4), .ref (w 5)])), ((w 1), .inl (k 0, 10, .inl (g 1))), ((w 3), .inl (k 0, 60, .inl (g 3)))])) (vp_Si (fun rr => True)) 0 0 (fun _ => False) := by
  refine Met.ofW (cc := cX6_placeOfSpark) (maxL := 5) (ret := (some .int)) (by decide) rfl ?_
  intro p e s m args below meth c s₁ B hml hv
  obtain ⟨rfl, hP, hK, hN0⟩ := hv
  have hx := B.exec
  have hb := B.bytes
  have hr := B.returns
  have hts : ∀ w ∈ wsL_law, w.before _ s = true := fun w h => atoms_spec (ws := Cond.code yX6_placeOfSpark cX6_placeOfSpark 5 (some .int) :: wsL_law) B.pre w (List.mem_cons_of_mem _ h)
  have hown : s.vm.findClass RX6 = some m.cls := findClass_of_methodNamed B.named
  have hlocks := B.notSynchronized
  have hP : va_P D vwCl [((w 0), .inr (5, [.int (y 0), .int (y 1), .int (y 2), .int (y 3), .int (y 4), .int (y 5), .int (y 6), .int (y 7), .int (y 8), .int (y 9), .int (y 10), .ref (w 1), .ref (w 2), .ref (w 3), .ref (w 4), .ref (w 5)])), ((w 1), .inl (k 0, 10, .inl (g 1))), ((w 3), .inl (k 0, 60, .inl (g 3)))] s.heap := hP
  have hl := lv_entry ([.ref (w 0), .int x]) (n := 5) (Nat.le_of_ble_eq_true rfl)
  rw [lg_entry_eq]
  generalize (lg_sl ([.ref (w 0), .int x]) ++ List.replicate (5 - (lg_sl ([.ref (w 0), .int x])).length) Slot.unset).toArray = ls at hl ⊢
  have hl : lv_has ls 5 [(0, .ref (w 0)), (1, .int x)] := hl
  refine lv_iconst (v := 0) hx hb dX6_placeOfSpark_0 (by decide) ?_
  refine lv_istore_n (lv' := [(2, .int 0), (0, .ref (w 0)), (1, .int x)]) hx hb dX6_placeOfSpark_1 rfl hl (by decide) rfl (fun ls hl => ?_)
  refine lv_iconst (v := 0) hx hb dX6_placeOfSpark_2 (by decide) ?_
  refine lv_istore_n (lv' := [(3, .int 0), (2, .int 0), (0, .ref (w 0)), (1, .int x)]) hx hb dX6_placeOfSpark_3 rfl hl (by decide) rfl (fun ls hl => ?_)
  refine W_loop (σ := Int32 × Int32) (fun xx H locs ls => (0 ≤ xx.1.toInt ∧ xx.1.toInt ≤ 10) ∧ va_P D vwCl [((w 0), .inr (5, [.int (y 0), .int (y 1), .int (y 2), .int (y 3), .int (y 4), .int (y 5), .int (y 6), .int (y 7), .int (y 8), .int (y 9), .int (y 10), .ref (w 1), .ref (w 2), .ref (w 3), .ref (w 4), .ref (w 5)])), ((w 1), .inl (k 0, 10, .inl (g 1))), ((w 3), .inl (k 0, 60, .inl (g 3)))] H ∧ H = s.heap ∧ locs = [] ∧ lv_has ls 5 [(3, .int xx.1), (2, .int xx.2), (0, .ref (w 0)), (1, .int x)]) (fun xx => (10 - xx.1.toInt).toNat) ?_ (0, 0) _ _ ls ⟨(show 0 ≤ (0 : Int32).toInt ∧ (0 : Int32).toInt ≤ 10 from ⟨by decide, by decide⟩), hP.sub [0, 1, 2] rfl, rfl, rfl, lv_sub hl [0, 1, 2, 3] rfl⟩
  intro xx H locs ls hI ih4
  obtain ⟨i_1, y_2⟩ := xx
  obtain ⟨h_3, hP, rfl, rfl, hl⟩ := hI
  have h_3 : 0 ≤ i_1.toInt ∧ i_1.toInt ≤ 10 := h_3
  obtain ⟨h_3a, h_3b⟩ := h_3
  have hP : va_P D vwCl [((w 0), .inr (5, [.int (y 0), .int (y 1), .int (y 2), .int (y 3), .int (y 4), .int (y 5), .int (y 6), .int (y 7), .int (y 8), .int (y 9), .int (y 10), .ref (w 1), .ref (w 2), .ref (w 3), .ref (w 4), .ref (w 5)])), ((w 1), .inl (k 0, 10, .inl (g 1))), ((w 3), .inl (k 0, 60, .inl (g 3)))] s.heap := hP
  have hl : lv_has ls 5 [(3, .int i_1), (2, .int y_2), (0, .ref (w 0)), (1, .int x)] := hl
  refine lv_iload_n hx hb dX6_placeOfSpark_4 rfl (lv_at hl 0 rfl) ?_
  refine lv_aload_n hx hb dX6_placeOfSpark_5 rfl (lv_at hl 2 rfl) ?_
  refine va_get (D := D) (ci := 5) (v := .int (y 0)) (C := RX6) (T := TX6) (N := 16) hx hb hts inlX6 hown hK hP 0 rfl rfl 0 (by decide) (hts _ mw_152) (fun _ h9 => h9) rfl dX6_placeOfSpark_6 ?_
  refine lv_icmp_ge (tgt := 67) hx hb dX6_placeOfSpark_9 (by decide) (fun c_4 => ?_) (fun c_4 => ?_)
  · have c_4 : (y 0).toInt ≤ i_1.toInt := ti_le c_4
    refine lv_iconst (v := (-1)) hx hb dX6_placeOfSpark_67 (by decide) ?_
    exact W.iret (v := (-1)) hx hb hr (fun t ht hW => ⟨(-1), rfl, trivial, ht⟩) (fun q h => by cases h) dX6_placeOfSpark_68
  · have c_4 : i_1.toInt < (y 0).toInt := ti_nle c_4
    refine lv_iconst (v := 0) hx hb dX6_placeOfSpark_12 (by decide) ?_
    refine lv_istore (lv' := [(4, .int 0), (3, .int i_1), (2, .int y_2), (0, .ref (w 0)), (1, .int x)]) hx hb dX6_placeOfSpark_13 hl (by decide) rfl (fun ls hl => ?_)
    refine W_loop (σ := Int32 × Int32) (fun xx H locs ls => (0 ≤ xx.1.toInt ∧ xx.1.toInt ≤ 6) ∧ va_P D vwCl [((w 0), .inr (5, [.int (y 0), .int (y 1), .int (y 2), .int (y 3), .int (y 4), .int (y 5), .int (y 6), .int (y 7), .int (y 8), .int (y 9), .int (y 10), .ref (w 1), .ref (w 2), .ref (w 3), .ref (w 4), .ref (w 5)])), ((w 1), .inl (k 0, 10, .inl (g 1))), ((w 3), .inl (k 0, 60, .inl (g 3)))] H ∧ H = s.heap ∧ locs = [] ∧ lv_has ls 5 [(4, .int xx.1), (3, .int i_1), (2, .int xx.2), (0, .ref (w 0)), (1, .int x)]) (fun xx => (6 - xx.1.toInt).toNat) ?_ (0, y_2) _ _ ls ⟨(show 0 ≤ (0 : Int32).toInt ∧ (0 : Int32).toInt ≤ 6 from ⟨by decide, by decide⟩), hP.sub [0, 1, 2] rfl, rfl, rfl, lv_sub hl [0, 1, 2, 3, 4] rfl⟩
    intro xx H locs ls hI ih15
    obtain ⟨i_5, y_6⟩ := xx
    obtain ⟨h_7, hP, rfl, rfl, hl⟩ := hI
    have h_7 : 0 ≤ i_5.toInt ∧ i_5.toInt ≤ 6 := h_7
    obtain ⟨h_7a, h_7b⟩ := h_7
    have hP : va_P D vwCl [((w 0), .inr (5, [.int (y 0), .int (y 1), .int (y 2), .int (y 3), .int (y 4), .int (y 5), .int (y 6), .int (y 7), .int (y 8), .int (y 9), .int (y 10), .ref (w 1), .ref (w 2), .ref (w 3), .ref (w 4), .ref (w 5)])), ((w 1), .inl (k 0, 10, .inl (g 1))), ((w 3), .inl (k 0, 60, .inl (g 3)))] s.heap := hP
    have hl : lv_has ls 5 [(4, .int i_5), (3, .int i_1), (2, .int y_6), (0, .ref (w 0)), (1, .int x)] := hl
    refine lv_iload hx hb dX6_placeOfSpark_15 (lv_at hl 0 rfl) ?_
    refine lv_aload_n hx hb dX6_placeOfSpark_17 rfl (lv_at hl 3 rfl) ?_
    refine va_get (D := D) (ci := 5) (v := .ref (w 1)) (C := RX6) (T := TX6) (N := 16) hx hb hts inlX6 hown hK hP 0 rfl rfl 11 (by decide) (hts _ mw_58) (fun _ h9 => h9) rfl dX6_placeOfSpark_18 ?_
    refine lv_iload_n hx hb dX6_placeOfSpark_21 rfl (lv_at hl 1 rfl) ?_
    refine va_iald hx hb hK hP 1 0 rfl rfl (vp_in_o (by omega) (by omega)) dX6_placeOfSpark_22 ?_
    refine lv_topi (fun z_8 ez_8 => ?_)
    have bz_8 : 0 ≤ z_8.toInt ∧ z_8.toInt ≤ 6 := by rw [ez_8]; exact w_hd _
    refine lv_icmp_ge (tgt := 61) hx hb dX6_placeOfSpark_23 (by decide) (fun c_9 => ?_) (fun c_9 => ?_)
    · have c_9 : z_8.toInt ≤ i_5.toInt := ti_le c_9
      obtain ⟨z_10, ez_10⟩ : ∃ y : Int32, y = i_1 + 1 := ⟨_, rfl⟩
      have tz_10 : z_10.toInt = i_1.toInt + 1 := by rw [ez_10]; exact ti_addc (by decide) (by omega) (by omega)
      refine lv_iinc (v := z_10) (lv' := [(3, .int z_10), (4, .int i_5), (2, .int y_6), (0, .ref (w 0)), (1, .int x)]) hx hb dX6_placeOfSpark_61 hl (k := 1) rfl (ez_10.symm) (by decide) rfl (fun ls hl => ?_)
      refine lv_goto (tgt := 4) hx hb dX6_placeOfSpark_64 (by decide) ?_
      exact ih4 (z_10, y_6) _ _ ls (by show (10 - z_10.toInt).toNat < (10 - i_1.toInt).toNat; omega) ⟨(show 0 ≤ z_10.toInt ∧ z_10.toInt ≤ 10 from ⟨by omega, by omega⟩), hP.sub [0, 1, 2] rfl, rfl, rfl, lv_sub hl [0, 2, 3, 4] rfl⟩
    · have c_9 : i_5.toInt < z_8.toInt := ti_nle c_9
      refine lv_aload_n hx hb dX6_placeOfSpark_26 rfl (lv_at hl 3 rfl) ?_
      refine lv_iload_n hx hb dX6_placeOfSpark_27 rfl (lv_at hl 1 rfl) ?_
      refine lv_iload hx hb dX6_placeOfSpark_28 (lv_at hl 0 rfl) ?_
      refine kV_i (q0 := 0) (As := [.int i_1, .int i_5]) (rest := []) ⟨hx, hb, hml, hown, hts⟩ (s_W_layerAt l D k _ y g i_1 i_5 (show 0 ≤ (y 0).toInt ∧ (y 0).toInt ≤ 10 from ⟨by omega, by omega⟩) (show 0 ≤ (y 2).toInt ∧ (y 2).toInt ≤ 6 from ⟨by omega, by omega⟩) (show 0 ≤ (y 6).toInt ∧ (y 6).toInt ≤ 1 from ⟨by omega, by omega⟩) (show 0 ≤ i_1.toInt ∧ i_1.toInt ≤ 9 from ⟨by omega, by omega⟩) (show 0 ≤ i_5.toInt ∧ i_5.toInt ≤ 5 from ⟨by omega, by omega⟩)) (gV mw_383 mw_384 mw_385 mw_19 mw_386) hd_yX6_layerAt rfl rfl ⟨Nat.le_of_ble_eq_true rfl, Nat.le_of_ble_eq_true rfl⟩ hK hN0 (hP.sub [0, 2] rfl) rfl rfl rfl rfl hl.1 rfl (Nat.le_of_ble_eq_true rfl) dX6_placeOfSpark_30 ⟨Nat.le_of_ble_eq_true rfl, Nat.le_of_ble_eq_true rfl⟩ (fun r_11 hr_11 => ?_)
      refine kS_i (As := [.int r_11]) (rest := []) ⟨hx, hb, hml, hown, hts⟩ (s_L_hasSpark l D k r_11) (gS mw_698 mw_449 mw_254 mw_450) hd_yX1_hasSpark rfl rfl ⟨Nat.le_of_ble_eq_true rfl, Nat.le_of_ble_eq_true rfl⟩ hK hN0 (hP.sub [] rfl) rfl hl.1 rfl (Nat.le_of_ble_eq_true rfl) dX6_placeOfSpark_33 ⟨Nat.le_of_ble_eq_true rfl, Nat.le_of_ble_eq_true rfl⟩ (fun r_12 hr_12 => ?_)
      have hr_12 : 0 ≤ r_12.toInt ∧ r_12.toInt ≤ 1 := hr_12
      refine lv_if_eq (tgt := 55) hx hb dX6_placeOfSpark_36 (by decide) (fun c_13 => ?_) (fun c_13 => ?_)
      · have c_13 : r_12.toInt = 0 := ti_eq c_13
        have qc_13 : r_12 = 0 := ti_of (show r_12.toInt = 0 from by omega)
        obtain ⟨z_14, ez_14⟩ : ∃ y : Int32, y = i_5 + 1 := ⟨_, rfl⟩
        have tz_14 : z_14.toInt = i_5.toInt + 1 := by rw [ez_14]; exact ti_addc (by decide) (by omega) (by omega)
        refine lv_iinc (v := z_14) (lv' := [(4, .int z_14), (3, .int i_1), (2, .int y_6), (0, .ref (w 0)), (1, .int x)]) hx hb dX6_placeOfSpark_55 hl (k := 0) rfl (ez_14.symm) (by decide) rfl (fun ls hl => ?_)
        refine lv_goto (tgt := 15) hx hb dX6_placeOfSpark_58 (by decide) ?_
        exact ih15 (z_14, y_6) _ _ ls (by show (6 - z_14.toInt).toNat < (6 - i_5.toInt).toNat; omega) ⟨(show 0 ≤ z_14.toInt ∧ z_14.toInt ≤ 6 from ⟨by omega, by omega⟩), hP.sub [0, 1, 2] rfl, rfl, rfl, lv_sub hl [0, 1, 2, 3, 4] rfl⟩
      · have c_13 : r_12.toInt ≠ 0 := ti_ne c_13
        have qc_13 : r_12 = 1 := ti_of (show r_12.toInt = 1 from by omega)
        refine lv_iload_n hx hb dX6_placeOfSpark_39 rfl (lv_at hl 2 rfl) ?_
        refine lv_iload_n hx hb dX6_placeOfSpark_40 rfl (lv_at hl 4 rfl) ?_
        refine lv_icmp_ne (tgt := 52) hx hb dX6_placeOfSpark_41 (by decide) (fun c_15 => ?_) (fun c_15 => ?_)
        · have c_15 : y_6.toInt ≠ x.toInt := ti_ne c_15
          obtain ⟨z_16, ez_16⟩ : ∃ y : Int32, y = y_6 + 1 := ⟨_, rfl⟩
          refine lv_iinc (v := z_16) (lv' := [(2, .int z_16), (4, .int i_5), (3, .int i_1), (0, .ref (w 0)), (1, .int x)]) hx hb dX6_placeOfSpark_52 hl (k := 2) rfl (ez_16.symm) (by decide) rfl (fun ls hl => ?_)
          obtain ⟨z_17, ez_17⟩ : ∃ y : Int32, y = i_5 + 1 := ⟨_, rfl⟩
          have tz_17 : z_17.toInt = i_5.toInt + 1 := by rw [ez_17]; exact ti_addc (by decide) (by omega) (by omega)
          refine lv_iinc (v := z_17) (lv' := [(4, .int z_17), (2, .int z_16), (3, .int i_1), (0, .ref (w 0)), (1, .int x)]) hx hb dX6_placeOfSpark_55 hl (k := 1) rfl (ez_17.symm) (by decide) rfl (fun ls hl => ?_)
          refine lv_goto (tgt := 15) hx hb dX6_placeOfSpark_58 (by decide) ?_
          exact ih15 (z_17, z_16) _ _ ls (by show (6 - z_17.toInt).toNat < (6 - i_5.toInt).toNat; omega) ⟨(show 0 ≤ z_17.toInt ∧ z_17.toInt ≤ 6 from ⟨by omega, by omega⟩), hP.sub [0, 1, 2] rfl, rfl, rfl, lv_sub hl [0, 2, 1, 3, 4] rfl⟩
        · have c_15 : y_6.toInt = x.toInt := ti_eq c_15
          refine lv_bipush (v := 10) hx hb dX6_placeOfSpark_44 (by decide) ?_
          refine lv_iload_n hx hb dX6_placeOfSpark_46 rfl (lv_at hl 1 rfl) ?_
          refine lv_imul hx hb dX6_placeOfSpark_47 ?_
          refine lv_topi (fun z_18 ez_18 => ?_)
          have tz_18 : z_18.toInt = 10 * i_1.toInt := by rw [ez_18]; exact ti_mulcl (by decide) (by omega) (by omega)
          refine lv_iload hx hb dX6_placeOfSpark_48 (lv_at hl 0 rfl) ?_
          refine lv_iadd hx hb dX6_placeOfSpark_50 ?_
          refine lv_topi (fun z_19 ez_19 => ?_)
          have tz_19 : z_19.toInt = z_18.toInt + i_5.toInt := by rw [ez_19]; exact ti_add (by omega) (by omega)
          exact W.iret (v := z_19) hx hb hr (fun t ht hW => ⟨z_19, rfl, trivial, ht⟩) (fun q h => by cases h) dX6_placeOfSpark_51
set_option maxHeartbeats 4000000 in
set_option maxRecDepth 100000 in
theorem s_W_roofsWithNewTop (l : Launch) (D : va_G) (k : Nat → ClassId) (w : Nat → Nat) (y : Nat → Int32) (g : Nat → Nat → Int32) (w_h0 : 0 ≤ (y 0).toInt ∧ (y 0).toInt ≤ 10) (w_h2 : 0 ≤ (y 2).toInt ∧ (y 2).toInt ≤ 6) (w_h6 : 0 ≤ (y 6).toInt ∧ (y 6).toInt ≤ 1) (w_hd : ∀ j : Nat, 0 ≤ ((g 1) j).toInt ∧ ((g 1) j).toInt ≤ 6) : Met l yX6_roofsWithNewTop (Cond.code yX6_roofsWithNewTop cX6_roofsWithNewTop 4 (some .int) :: wsL_law) ({ frames := 1, cells := 0, slots := 0, locals := 60 } : Room) (va_Pc [.ref (w 0)] (pr D k [((w 0), .inr (5, [.int (y 0), .int (y 1), .int (y 2), .int (y 3), .int (y 4), .int (y 5), .int (y 6), .int (y 7), .int (y 8), .int (y 9), .int (y 10), .ref (w 1), .ref (w 2), .ref (w 3), .ref (w 4), .ref (w 5)])), ((w 1), .inl (k 0, 10, .inl (g 1))), ((w 3), .inl (k 0, 60, .inl (g 3)))])) (vp_Si (fun rr => True)) 0 0 (fun _ => False) := by
  refine Met.ofW (cc := cX6_roofsWithNewTop) (maxL := 4) (ret := (some .int)) (by decide) rfl ?_
  intro p e s m args below meth c s₁ B hml hv
  obtain ⟨rfl, hP, hK, hN0⟩ := hv
  have hx := B.exec
  have hb := B.bytes
  have hr := B.returns
  have hts : ∀ w ∈ wsL_law, w.before _ s = true := fun w h => atoms_spec (ws := Cond.code yX6_roofsWithNewTop cX6_roofsWithNewTop 4 (some .int) :: wsL_law) B.pre w (List.mem_cons_of_mem _ h)
  have hown : s.vm.findClass RX6 = some m.cls := findClass_of_methodNamed B.named
  have hlocks := B.notSynchronized
  have hP : va_P D vwCl [((w 0), .inr (5, [.int (y 0), .int (y 1), .int (y 2), .int (y 3), .int (y 4), .int (y 5), .int (y 6), .int (y 7), .int (y 8), .int (y 9), .int (y 10), .ref (w 1), .ref (w 2), .ref (w 3), .ref (w 4), .ref (w 5)])), ((w 1), .inl (k 0, 10, .inl (g 1))), ((w 3), .inl (k 0, 60, .inl (g 3)))] s.heap := hP
  have hl := lv_entry ([.ref (w 0)]) (n := 4) (Nat.le_of_ble_eq_true rfl)
  rw [lg_entry_eq]
  generalize (lg_sl ([.ref (w 0)]) ++ List.replicate (4 - (lg_sl ([.ref (w 0)])).length) Slot.unset).toArray = ls at hl ⊢
  have hl : lv_has ls 4 [(0, .ref (w 0))] := hl
  refine lv_iconst (v := 0) hx hb dX6_roofsWithNewTop_0 (by decide) ?_
  refine lv_istore_n (lv' := [(1, .int 0), (0, .ref (w 0))]) hx hb dX6_roofsWithNewTop_1 rfl hl (by decide) rfl (fun ls hl => ?_)
  refine lv_iconst (v := 0) hx hb dX6_roofsWithNewTop_2 (by decide) ?_
  refine lv_istore_n (lv' := [(2, .int 0), (1, .int 0), (0, .ref (w 0))]) hx hb dX6_roofsWithNewTop_3 rfl hl (by decide) rfl (fun ls hl => ?_)
  refine W_loop (σ := Int32 × Int32) (fun xx H locs ls => (0 ≤ xx.1.toInt ∧ xx.1.toInt ≤ 10) ∧ va_P D vwCl [((w 0), .inr (5, [.int (y 0), .int (y 1), .int (y 2), .int (y 3), .int (y 4), .int (y 5), .int (y 6), .int (y 7), .int (y 8), .int (y 9), .int (y 10), .ref (w 1), .ref (w 2), .ref (w 3), .ref (w 4), .ref (w 5)])), ((w 1), .inl (k 0, 10, .inl (g 1))), ((w 3), .inl (k 0, 60, .inl (g 3)))] H ∧ H = s.heap ∧ locs = [] ∧ lv_has ls 4 [(2, .int xx.1), (1, .int xx.2), (0, .ref (w 0))]) (fun xx => (10 - xx.1.toInt).toNat) ?_ (0, 0) _ _ ls ⟨(show 0 ≤ (0 : Int32).toInt ∧ (0 : Int32).toInt ≤ 10 from ⟨by decide, by decide⟩), hP.sub [0, 1, 2] rfl, rfl, rfl, lv_sub hl [0, 1, 2] rfl⟩
  intro xx H locs ls hI ih4
  obtain ⟨i_1, y_2⟩ := xx
  obtain ⟨h_3, hP, rfl, rfl, hl⟩ := hI
  have h_3 : 0 ≤ i_1.toInt ∧ i_1.toInt ≤ 10 := h_3
  obtain ⟨h_3a, h_3b⟩ := h_3
  have hP : va_P D vwCl [((w 0), .inr (5, [.int (y 0), .int (y 1), .int (y 2), .int (y 3), .int (y 4), .int (y 5), .int (y 6), .int (y 7), .int (y 8), .int (y 9), .int (y 10), .ref (w 1), .ref (w 2), .ref (w 3), .ref (w 4), .ref (w 5)])), ((w 1), .inl (k 0, 10, .inl (g 1))), ((w 3), .inl (k 0, 60, .inl (g 3)))] s.heap := hP
  have hl : lv_has ls 4 [(2, .int i_1), (1, .int y_2), (0, .ref (w 0))] := hl
  refine lv_iload_n hx hb dX6_roofsWithNewTop_4 rfl (lv_at hl 0 rfl) ?_
  refine lv_aload_n hx hb dX6_roofsWithNewTop_5 rfl (lv_at hl 2 rfl) ?_
  refine va_get (D := D) (ci := 5) (v := .int (y 0)) (C := RX6) (T := TX6) (N := 16) hx hb hts inlX6 hown hK hP 0 rfl rfl 0 (by decide) (hts _ mw_152) (fun _ h9 => h9) rfl dX6_roofsWithNewTop_6 ?_
  refine lv_icmp_ge (tgt := 59) hx hb dX6_roofsWithNewTop_9 (by decide) (fun c_4 => ?_) (fun c_4 => ?_)
  · have c_4 : (y 0).toInt ≤ i_1.toInt := ti_le c_4
    refine lv_iload_n hx hb dX6_roofsWithNewTop_59 rfl (lv_at hl 1 rfl) ?_
    exact W.iret (v := y_2) hx hb hr (fun t ht hW => ⟨y_2, rfl, trivial, ht⟩) (fun q h => by cases h) dX6_roofsWithNewTop_60
  · have c_4 : i_1.toInt < (y 0).toInt := ti_nle c_4
    refine lv_aload_n hx hb dX6_roofsWithNewTop_12 rfl (lv_at hl 2 rfl) ?_
    refine va_get (D := D) (ci := 5) (v := .ref (w 1)) (C := RX6) (T := TX6) (N := 16) hx hb hts inlX6 hown hK hP 0 rfl rfl 11 (by decide) (hts _ mw_58) (fun _ h9 => h9) rfl dX6_roofsWithNewTop_13 ?_
    refine lv_iload_n hx hb dX6_roofsWithNewTop_16 rfl (lv_at hl 0 rfl) ?_
    refine va_iald hx hb hK hP 1 0 rfl rfl (vp_in_o (by omega) (by omega)) dX6_roofsWithNewTop_17 ?_
    refine lv_topi (fun z_5 ez_5 => ?_)
    have bz_5 : 0 ≤ z_5.toInt ∧ z_5.toInt ≤ 6 := by rw [ez_5]; exact w_hd _
    refine lv_if_le (tgt := 37) hx hb dX6_roofsWithNewTop_18 (by decide) (fun c_6 => ?_) (fun c_6 => ?_)
    · have c_6 : z_5.toInt ≤ 0 := ti_le c_6
      have qc_6 : z_5 = 0 := ti_of (show z_5.toInt = 0 from by omega)
      refine lv_iconst (v := 0) hx hb dX6_roofsWithNewTop_37 (by decide) ?_
      refine lv_istore_n (lv' := [(3, .int 0), (2, .int i_1), (1, .int y_2), (0, .ref (w 0))]) hx hb dX6_roofsWithNewTop_38 rfl hl (by decide) rfl (fun ls hl => ?_)
      refine lv_iload_n hx hb dX6_roofsWithNewTop_39 rfl (lv_at hl 2 rfl) ?_
      refine lv_iload_n hx hb dX6_roofsWithNewTop_40 rfl (lv_at hl 0 rfl) ?_
      refine lv_if_eq (tgt := 50) hx hb dX6_roofsWithNewTop_41 (by decide) (fun _ => ?_) (fun c9 => absurd c9 (by decide))
      refine lv_iconst (v := 0) hx hb dX6_roofsWithNewTop_50 (by decide) ?_
      refine lv_ior hx hb dX6_roofsWithNewTop_51 ?_
      refine lv_ni (v := y_2) (ior_0 _) ?_
      refine lv_istore_n (lv' := [(1, .int y_2), (3, .int 0), (2, .int i_1), (0, .ref (w 0))]) hx hb dX6_roofsWithNewTop_52 rfl hl (by decide) rfl (fun ls hl => ?_)
      obtain ⟨z_7, ez_7⟩ : ∃ y : Int32, y = i_1 + 1 := ⟨_, rfl⟩
      have tz_7 : z_7.toInt = i_1.toInt + 1 := by rw [ez_7]; exact ti_addc (by decide) (by omega) (by omega)
      refine lv_iinc (v := z_7) (lv' := [(2, .int z_7), (1, .int y_2), (3, .int 0), (0, .ref (w 0))]) hx hb dX6_roofsWithNewTop_53 hl (k := 2) rfl (ez_7.symm) (by decide) rfl (fun ls hl => ?_)
      refine lv_goto (tgt := 4) hx hb dX6_roofsWithNewTop_56 (by decide) ?_
      exact ih4 (z_7, y_2) _ _ ls (by show (10 - z_7.toInt).toNat < (10 - i_1.toInt).toNat; omega) ⟨(show 0 ≤ z_7.toInt ∧ z_7.toInt ≤ 10 from ⟨by omega, by omega⟩), hP.sub [0, 1, 2] rfl, rfl, rfl, lv_sub hl [0, 1, 3] rfl⟩
    · have c_6 : 0 < z_5.toInt := ti_nle c_6
      refine lv_aload_n hx hb dX6_roofsWithNewTop_21 rfl (lv_at hl 2 rfl) ?_
      refine lv_iload_n hx hb dX6_roofsWithNewTop_22 rfl (lv_at hl 0 rfl) ?_
      refine lv_iconst (v := 0) hx hb dX6_roofsWithNewTop_23 (by decide) ?_
      refine kV_i (q0 := 0) (As := [.int i_1, .int 0]) (rest := []) ⟨hx, hb, hml, hown, hts⟩ (s_W_layerAt l D k _ y g i_1 0 (show 0 ≤ (y 0).toInt ∧ (y 0).toInt ≤ 10 from ⟨by omega, by omega⟩) (show 0 ≤ (y 2).toInt ∧ (y 2).toInt ≤ 6 from ⟨by omega, by omega⟩) (show 0 ≤ (y 6).toInt ∧ (y 6).toInt ≤ 1 from ⟨by omega, by omega⟩) (show 0 ≤ i_1.toInt ∧ i_1.toInt ≤ 9 from ⟨by omega, by omega⟩) (show 0 ≤ (0 : Int32).toInt ∧ (0 : Int32).toInt ≤ 5 from ⟨by decide, by decide⟩)) (gV mw_383 mw_384 mw_385 mw_19 mw_386) hd_yX6_layerAt rfl rfl ⟨Nat.le_of_ble_eq_true rfl, Nat.le_of_ble_eq_true rfl⟩ hK hN0 (hP.sub [0, 2] rfl) rfl rfl rfl rfl hl.1 rfl (Nat.le_of_ble_eq_true rfl) dX6_roofsWithNewTop_24 ⟨Nat.le_of_ble_eq_true rfl, Nat.le_of_ble_eq_true rfl⟩ (fun r_8 hr_8 => ?_)
      refine kS_i (As := [.int r_8]) (rest := []) ⟨hx, hb, hml, hown, hts⟩ (s_L_ageOf l D k r_8) (gS mw_394 mw_395 mw_254 mw_396) hd_yX1_ageOf rfl rfl ⟨Nat.le_of_ble_eq_true rfl, Nat.le_of_ble_eq_true rfl⟩ hK hN0 (hP.sub [] rfl) rfl hl.1 rfl (Nat.le_of_ble_eq_true rfl) dX6_roofsWithNewTop_27 ⟨Nat.le_of_ble_eq_true rfl, Nat.le_of_ble_eq_true rfl⟩ (fun r_9 hr_9 => ?_)
      have hr_9 : 0 ≤ r_9.toInt ∧ r_9.toInt ≤ 127 := hr_9
      refine lv_if_ne (tgt := 37) hx hb dX6_roofsWithNewTop_30 (by decide) (fun c_10 => ?_) (fun c_10 => ?_)
      · have c_10 : r_9.toInt ≠ 0 := ti_ne c_10
        refine lv_iconst (v := 0) hx hb dX6_roofsWithNewTop_37 (by decide) ?_
        refine lv_istore_n (lv' := [(3, .int 0), (2, .int i_1), (1, .int y_2), (0, .ref (w 0))]) hx hb dX6_roofsWithNewTop_38 rfl hl (by decide) rfl (fun ls hl => ?_)
        refine lv_iload_n hx hb dX6_roofsWithNewTop_39 rfl (lv_at hl 2 rfl) ?_
        refine lv_iload_n hx hb dX6_roofsWithNewTop_40 rfl (lv_at hl 0 rfl) ?_
        refine lv_if_eq (tgt := 50) hx hb dX6_roofsWithNewTop_41 (by decide) (fun _ => ?_) (fun c9 => absurd c9 (by decide))
        refine lv_iconst (v := 0) hx hb dX6_roofsWithNewTop_50 (by decide) ?_
        refine lv_ior hx hb dX6_roofsWithNewTop_51 ?_
        refine lv_ni (v := y_2) (ior_0 _) ?_
        refine lv_istore_n (lv' := [(1, .int y_2), (3, .int 0), (2, .int i_1), (0, .ref (w 0))]) hx hb dX6_roofsWithNewTop_52 rfl hl (by decide) rfl (fun ls hl => ?_)
        obtain ⟨z_11, ez_11⟩ : ∃ y : Int32, y = i_1 + 1 := ⟨_, rfl⟩
        have tz_11 : z_11.toInt = i_1.toInt + 1 := by rw [ez_11]; exact ti_addc (by decide) (by omega) (by omega)
        refine lv_iinc (v := z_11) (lv' := [(2, .int z_11), (1, .int y_2), (3, .int 0), (0, .ref (w 0))]) hx hb dX6_roofsWithNewTop_53 hl (k := 2) rfl (ez_11.symm) (by decide) rfl (fun ls hl => ?_)
        refine lv_goto (tgt := 4) hx hb dX6_roofsWithNewTop_56 (by decide) ?_
        exact ih4 (z_11, y_2) _ _ ls (by show (10 - z_11.toInt).toNat < (10 - i_1.toInt).toNat; omega) ⟨(show 0 ≤ z_11.toInt ∧ z_11.toInt ≤ 10 from ⟨by omega, by omega⟩), hP.sub [0, 1, 2] rfl, rfl, rfl, lv_sub hl [0, 1, 3] rfl⟩
      · have c_10 : r_9.toInt = 0 := ti_eq c_10
        have qc_10 : r_9 = 0 := ti_of (show r_9.toInt = 0 from by omega)
        refine lv_iconst (v := 1) hx hb dX6_roofsWithNewTop_33 (by decide) ?_
        refine lv_goto (tgt := 38) hx hb dX6_roofsWithNewTop_34 (by decide) ?_
        refine lv_istore_n (lv' := [(3, .int 1), (2, .int i_1), (1, .int y_2), (0, .ref (w 0))]) hx hb dX6_roofsWithNewTop_38 rfl hl (by decide) rfl (fun ls hl => ?_)
        refine lv_iload_n hx hb dX6_roofsWithNewTop_39 rfl (lv_at hl 2 rfl) ?_
        refine lv_iload_n hx hb dX6_roofsWithNewTop_40 rfl (lv_at hl 0 rfl) ?_
        refine lv_if_eq (tgt := 50) hx hb dX6_roofsWithNewTop_41 (by decide) (fun c9 => absurd c9 (by decide)) (fun _ => ?_)
        refine lv_iconst (v := 1) hx hb dX6_roofsWithNewTop_44 (by decide) ?_
        refine lv_iload_n hx hb dX6_roofsWithNewTop_45 rfl (lv_at hl 1 rfl) ?_
        refine lv_ishl hx hb dX6_roofsWithNewTop_46 ?_
        refine lv_topi (fun z_12 ez_12 => ?_)
        refine lv_goto (tgt := 51) hx hb dX6_roofsWithNewTop_47 (by decide) ?_
        refine lv_ior hx hb dX6_roofsWithNewTop_51 ?_
        refine lv_topi (fun z_13 ez_13 => ?_)
        refine lv_istore_n (lv' := [(1, .int z_13), (3, .int 1), (2, .int i_1), (0, .ref (w 0))]) hx hb dX6_roofsWithNewTop_52 rfl hl (by decide) rfl (fun ls hl => ?_)
        obtain ⟨z_14, ez_14⟩ : ∃ y : Int32, y = i_1 + 1 := ⟨_, rfl⟩
        have tz_14 : z_14.toInt = i_1.toInt + 1 := by rw [ez_14]; exact ti_addc (by decide) (by omega) (by omega)
        refine lv_iinc (v := z_14) (lv' := [(2, .int z_14), (1, .int z_13), (3, .int 1), (0, .ref (w 0))]) hx hb dX6_roofsWithNewTop_53 hl (k := 2) rfl (ez_14.symm) (by decide) rfl (fun ls hl => ?_)
        refine lv_goto (tgt := 4) hx hb dX6_roofsWithNewTop_56 (by decide) ?_
        exact ih4 (z_14, z_13) _ _ ls (by show (10 - z_14.toInt).toNat < (10 - i_1.toInt).toNat; omega) ⟨(show 0 ≤ z_14.toInt ∧ z_14.toInt ≤ 10 from ⟨by omega, by omega⟩), hP.sub [0, 1, 2] rfl, rfl, rfl, lv_sub hl [0, 1, 3] rfl⟩
