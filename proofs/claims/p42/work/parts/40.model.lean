theorem dX8_within_0 : decode cX8_within 0 = .ok (.lload_n 0, 1) := by decide +kernel
theorem dX8_within_1 : decode cX8_within 1 = .ok (.lload_n 2, 1) := by decide +kernel
theorem dX8_within_2 : decode cX8_within 2 = .ok (.lcmp, 1) := by decide +kernel
theorem dX8_within_3 : decode cX8_within 3 = .ok (.ifCond .lt 14, 3) := by decide +kernel
theorem dX8_within_17 : decode cX8_within 17 = .ok (.iconst 0, 1) := by decide +kernel
theorem dX8_within_18 : decode cX8_within 18 = .ok (.ireturn, 1) := by decide +kernel
theorem dX8_within_6 : decode cX8_within 6 = .ok (.lload_n 0, 1) := by decide +kernel
theorem dX8_within_7 : decode cX8_within 7 = .ok (.lload 4, 2) := by decide +kernel
theorem dX8_within_9 : decode cX8_within 9 = .ok (.lcmp, 1) := by decide +kernel
theorem dX8_within_10 : decode cX8_within 10 = .ok (.ifCond .gt 7, 3) := by decide +kernel
theorem dX8_within_13 : decode cX8_within 13 = .ok (.iconst 1, 1) := by decide +kernel
theorem dX8_within_14 : decode cX8_within 14 = .ok (.goto 4, 3) := by decide +kernel
theorem dX8_isSlate_0 : decode cX8_isSlate 0 = .ok (.aload_n 0, 1) := by decide +kernel
theorem dX8_isSlate_1 : decode cX8_isSlate 1 = .ok (.getfield 13, 3) := by decide +kernel
theorem mwm_91 : Cond.fieldLink RX8 13 "ThatchNextModel" "all" "[I" ∈ wsL_law := List.mem_of_getElem? (i := 91) (by decide +kernel)
theorem dX8_isSlate_4 : decode cX8_isSlate 4 = .ok (.bipush 9, 2) := by decide +kernel
theorem dX8_isSlate_6 : decode cX8_isSlate 6 = .ok (.iload_n 1, 1) := by decide +kernel
theorem dX8_isSlate_7 : decode cX8_isSlate 7 = .ok (.iadd, 1) := by decide +kernel
theorem dX8_isSlate_8 : decode cX8_isSlate 8 = .ok (.iaload, 1) := by decide +kernel
theorem dX8_isSlate_9 : decode cX8_isSlate 9 = .ok (.iconst 1, 1) := by decide +kernel
theorem dX8_isSlate_10 : decode cX8_isSlate 10 = .ok (.if_icmp .ne 7, 3) := by decide +kernel
theorem dX8_isSlate_17 : decode cX8_isSlate 17 = .ok (.iconst 0, 1) := by decide +kernel
theorem dX8_isSlate_18 : decode cX8_isSlate 18 = .ok (.ireturn, 1) := by decide +kernel
theorem dX8_isSlate_13 : decode cX8_isSlate 13 = .ok (.iconst 1, 1) := by decide +kernel
theorem dX8_isSlate_14 : decode cX8_isSlate 14 = .ok (.goto 4, 3) := by decide +kernel
theorem dX8_giver_0 : decode cX8_giver 0 = .ok (.iload_n 1, 1) := by decide +kernel
theorem dX8_giver_1 : decode cX8_giver 1 = .ok (.ifCond .le 9, 3) := by decide +kernel
theorem dX8_giver_10 : decode cX8_giver 10 = .ok (.aload_n 0, 1) := by decide +kernel
theorem dX8_giver_11 : decode cX8_giver 11 = .ok (.getfield 13, 3) := by decide +kernel
theorem dX8_giver_14 : decode cX8_giver 14 = .ok (.bipush 6, 2) := by decide +kernel
theorem dX8_giver_16 : decode cX8_giver 16 = .ok (.iaload, 1) := by decide +kernel
theorem dX8_giver_17 : decode cX8_giver 17 = .ok (.iconst 1, 1) := by decide +kernel
theorem dX8_giver_18 : decode cX8_giver 18 = .ok (.if_icmp .ne 24, 3) := by decide +kernel
theorem dX8_giver_42 : decode cX8_giver 42 = .ok (.iconst (-1), 1) := by decide +kernel
theorem dX8_giver_43 : decode cX8_giver 43 = .ok (.ireturn, 1) := by decide +kernel
theorem dX8_giver_21 : decode cX8_giver 21 = .ok (.aload_n 0, 1) := by decide +kernel
theorem dX8_giver_22 : decode cX8_giver 22 = .ok (.getfield 13, 3) := by decide +kernel
theorem dX8_giver_25 : decode cX8_giver 25 = .ok (.iconst 0, 1) := by decide +kernel
theorem dX8_giver_26 : decode cX8_giver 26 = .ok (.iaload, 1) := by decide +kernel
theorem dX8_giver_27 : decode cX8_giver 27 = .ok (.iconst 1, 1) := by decide +kernel
theorem dX8_giver_28 : decode cX8_giver 28 = .ok (.if_icmp .le 14, 3) := by decide +kernel
theorem dX8_giver_31 : decode cX8_giver 31 = .ok (.aload_n 0, 1) := by decide +kernel
theorem dX8_giver_32 : decode cX8_giver 32 = .ok (.getfield 13, 3) := by decide +kernel
theorem dX8_giver_35 : decode cX8_giver 35 = .ok (.iconst 0, 1) := by decide +kernel
theorem dX8_giver_36 : decode cX8_giver 36 = .ok (.iaload, 1) := by decide +kernel
theorem dX8_giver_37 : decode cX8_giver 37 = .ok (.iconst 1, 1) := by decide +kernel
theorem dX8_giver_38 : decode cX8_giver 38 = .ok (.isub, 1) := by decide +kernel
theorem dX8_giver_39 : decode cX8_giver 39 = .ok (.goto 4, 3) := by decide +kernel
theorem dX8_giver_4 : decode cX8_giver 4 = .ok (.iload_n 1, 1) := by decide +kernel
theorem dX8_giver_5 : decode cX8_giver 5 = .ok (.iconst 1, 1) := by decide +kernel
theorem dX8_giver_6 : decode cX8_giver 6 = .ok (.isub, 1) := by decide +kernel
theorem dX8_giver_7 : decode cX8_giver 7 = .ok (.goto 36, 3) := by decide +kernel
theorem dX8_isSound_0 : decode cX8_isSound 0 = .ok (.aload_n 0, 1) := by decide +kernel
theorem dX8_isSound_1 : decode cX8_isSound 1 = .ok (.getfield 13, 3) := by decide +kernel
theorem dX8_isSound_4 : decode cX8_isSound 4 = .ok (.bipush 49, 2) := by decide +kernel
theorem dX8_isSound_6 : decode cX8_isSound 6 = .ok (.iload_n 1, 1) := by decide +kernel
theorem dX8_isSound_7 : decode cX8_isSound 7 = .ok (.iadd, 1) := by decide +kernel
theorem dX8_isSound_8 : decode cX8_isSound 8 = .ok (.iaload, 1) := by decide +kernel
theorem dX8_isSound_9 : decode cX8_isSound 9 = .ok (.aload_n 0, 1) := by decide +kernel
theorem dX8_isSound_10 : decode cX8_isSound 10 = .ok (.getfield 13, 3) := by decide +kernel
theorem dX8_isSound_13 : decode cX8_isSound 13 = .ok (.iconst 3, 1) := by decide +kernel
theorem dX8_isSound_14 : decode cX8_isSound 14 = .ok (.aload_n 0, 1) := by decide +kernel
theorem dX8_isSound_15 : decode cX8_isSound 15 = .ok (.getfield 13, 3) := by decide +kernel
theorem dX8_isSound_18 : decode cX8_isSound 18 = .ok (.bipush 109, 2) := by decide +kernel
theorem dX8_isSound_20 : decode cX8_isSound 20 = .ok (.iload_n 1, 1) := by decide +kernel
theorem dX8_isSound_21 : decode cX8_isSound 21 = .ok (.iadd, 1) := by decide +kernel
theorem dX8_isSound_22 : decode cX8_isSound 22 = .ok (.iaload, 1) := by decide +kernel
theorem dX8_isSound_23 : decode cX8_isSound 23 = .ok (.iadd, 1) := by decide +kernel
theorem dX8_isSound_24 : decode cX8_isSound 24 = .ok (.iaload, 1) := by decide +kernel
theorem dX8_isSound_25 : decode cX8_isSound 25 = .ok (.if_icmp .gt 7, 3) := by decide +kernel
theorem dX8_isSound_32 : decode cX8_isSound 32 = .ok (.iconst 0, 1) := by decide +kernel
theorem dX8_isSound_33 : decode cX8_isSound 33 = .ok (.ireturn, 1) := by decide +kernel
theorem dX8_isSound_28 : decode cX8_isSound 28 = .ok (.iconst 1, 1) := by decide +kernel
theorem dX8_isSound_29 : decode cX8_isSound 29 = .ok (.goto 4, 3) := by decide +kernel
theorem dX8_soundIn_0 : decode cX8_soundIn 0 = .ok (.iconst 0, 1) := by decide +kernel
theorem dX8_soundIn_1 : decode cX8_soundIn 1 = .ok (.istore_n 2, 1) := by decide +kernel
theorem dX8_soundIn_2 : decode cX8_soundIn 2 = .ok (.iconst 0, 1) := by decide +kernel
theorem dX8_soundIn_3 : decode cX8_soundIn 3 = .ok (.istore_n 3, 1) := by decide +kernel
theorem dX8_soundIn_4 : decode cX8_soundIn 4 = .ok (.iload_n 3, 1) := by decide +kernel
theorem dX8_soundIn_5 : decode cX8_soundIn 5 = .ok (.aload_n 0, 1) := by decide +kernel
theorem dX8_soundIn_6 : decode cX8_soundIn 6 = .ok (.getfield 13, 3) := by decide +kernel
theorem dX8_soundIn_9 : decode cX8_soundIn 9 = .ok (.bipush 39, 2) := by decide +kernel
theorem dX8_soundIn_11 : decode cX8_soundIn 11 = .ok (.iload_n 1, 1) := by decide +kernel
theorem dX8_soundIn_12 : decode cX8_soundIn 12 = .ok (.iadd, 1) := by decide +kernel
theorem dX8_soundIn_13 : decode cX8_soundIn 13 = .ok (.iaload, 1) := by decide +kernel
theorem dX8_soundIn_14 : decode cX8_soundIn 14 = .ok (.if_icmp .ge 30, 3) := by decide +kernel
theorem dX8_soundIn_44 : decode cX8_soundIn 44 = .ok (.iload_n 2, 1) := by decide +kernel
theorem dX8_soundIn_45 : decode cX8_soundIn 45 = .ok (.ireturn, 1) := by decide +kernel
theorem dX8_soundIn_17 : decode cX8_soundIn 17 = .ok (.iload_n 2, 1) := by decide +kernel
theorem dX8_soundIn_18 : decode cX8_soundIn 18 = .ok (.aload_n 0, 1) := by decide +kernel
theorem dX8_soundIn_19 : decode cX8_soundIn 19 = .ok (.bipush 6, 2) := by decide +kernel
theorem dX8_soundIn_21 : decode cX8_soundIn 21 = .ok (.iload_n 1, 1) := by decide +kernel
theorem dX8_soundIn_22 : decode cX8_soundIn 22 = .ok (.imul, 1) := by decide +kernel
theorem dX8_soundIn_23 : decode cX8_soundIn 23 = .ok (.iload_n 3, 1) := by decide +kernel
theorem dX8_soundIn_24 : decode cX8_soundIn 24 = .ok (.iadd, 1) := by decide +kernel
theorem dX8_soundIn_25 : decode cX8_soundIn 25 = .ok (.invokevirtual 158, 3) := by decide +kernel
theorem hdm_yX8_isSound : HD yX8_isSound RX8 1 := by decide +kernel
theorem mwm_429 : Cond.methodLink RX8 158 yX8_isSound ∈ wsL_law := List.mem_of_getElem? (i := 429) (by decide +kernel)
theorem mwm_430 : Cond.instanceMethod yX8_isSound ∈ wsL_law := List.mem_of_getElem? (i := 430) (by decide +kernel)
theorem mwm_431 : Cond.selects RX8 yX8_isSound yX8_isSound ∈ wsL_law := List.mem_of_getElem? (i := 431) (by decide +kernel)
theorem mwm_5 : Cond.initialized RX8 ∈ wsL_law := List.mem_of_getElem? (i := 5) (by decide +kernel)
theorem mwm_432 : Cond.code yX8_isSound cX8_isSound 2 (some .boolean) ∈ wsL_law := List.mem_of_getElem? (i := 432) (by decide +kernel)
theorem dX8_soundIn_28 : decode cX8_soundIn 28 = .ok (.ifCond .eq 7, 3) := by decide +kernel
theorem dX8_soundIn_35 : decode cX8_soundIn 35 = .ok (.iconst 0, 1) := by decide +kernel
theorem dX8_soundIn_36 : decode cX8_soundIn 36 = .ok (.iadd, 1) := by decide +kernel
theorem dX8_soundIn_37 : decode cX8_soundIn 37 = .ok (.istore_n 2, 1) := by decide +kernel
theorem dX8_soundIn_38 : decode cX8_soundIn 38 = .ok (.iinc 3 1, 3) := by decide +kernel
theorem dX8_soundIn_41 : decode cX8_soundIn 41 = .ok (.goto (-37), 3) := by decide +kernel
theorem dX8_soundIn_31 : decode cX8_soundIn 31 = .ok (.iconst 1, 1) := by decide +kernel
theorem dX8_soundIn_32 : decode cX8_soundIn 32 = .ok (.goto 4, 3) := by decide +kernel
theorem dX8_drips_0 : decode cX8_drips 0 = .ok (.aload_n 0, 1) := by decide +kernel
theorem dX8_drips_1 : decode cX8_drips 1 = .ok (.iload_n 1, 1) := by decide +kernel
theorem dX8_drips_2 : decode cX8_drips 2 = .ok (.invokevirtual 161, 3) := by decide +kernel
theorem hdm_yX8_isSlate : HD yX8_isSlate RX8 1 := by decide +kernel
theorem mwm_421 : Cond.methodLink RX8 161 yX8_isSlate ∈ wsL_law := List.mem_of_getElem? (i := 421) (by decide +kernel)
theorem mwm_422 : Cond.instanceMethod yX8_isSlate ∈ wsL_law := List.mem_of_getElem? (i := 422) (by decide +kernel)
theorem mwm_423 : Cond.selects RX8 yX8_isSlate yX8_isSlate ∈ wsL_law := List.mem_of_getElem? (i := 423) (by decide +kernel)
theorem mwm_424 : Cond.code yX8_isSlate cX8_isSlate 2 (some .boolean) ∈ wsL_law := List.mem_of_getElem? (i := 424) (by decide +kernel)
theorem dX8_drips_5 : decode cX8_drips 5 = .ok (.ifCond .ne 15, 3) := by decide +kernel
theorem dX8_drips_20 : decode cX8_drips 20 = .ok (.iconst 0, 1) := by decide +kernel
theorem dX8_drips_21 : decode cX8_drips 21 = .ok (.ireturn, 1) := by decide +kernel
theorem dX8_drips_8 : decode cX8_drips 8 = .ok (.aload_n 0, 1) := by decide +kernel
theorem dX8_drips_9 : decode cX8_drips 9 = .ok (.iload_n 1, 1) := by decide +kernel
theorem dX8_drips_10 : decode cX8_drips 10 = .ok (.invokevirtual 164, 3) := by decide +kernel
theorem hdm_yX8_soundIn : HD yX8_soundIn RX8 1 := by decide +kernel
theorem mwm_425 : Cond.methodLink RX8 164 yX8_soundIn ∈ wsL_law := List.mem_of_getElem? (i := 425) (by decide +kernel)
theorem mwm_426 : Cond.instanceMethod yX8_soundIn ∈ wsL_law := List.mem_of_getElem? (i := 426) (by decide +kernel)
theorem mwm_427 : Cond.selects RX8 yX8_soundIn yX8_soundIn ∈ wsL_law := List.mem_of_getElem? (i := 427) (by decide +kernel)
theorem mwm_428 : Cond.code yX8_soundIn cX8_soundIn 4 (some .int) ∈ wsL_law := List.mem_of_getElem? (i := 428) (by decide +kernel)
theorem dX8_drips_13 : decode cX8_drips 13 = .ok (.ifCond .ne 7, 3) := by decide +kernel
theorem dX8_drips_16 : decode cX8_drips 16 = .ok (.iconst 1, 1) := by decide +kernel
theorem dX8_drips_17 : decode cX8_drips 17 = .ok (.goto 4, 3) := by decide +kernel
theorem dX8_dripping_0 : decode cX8_dripping 0 = .ok (.iconst 0, 1) := by decide +kernel
theorem dX8_dripping_1 : decode cX8_dripping 1 = .ok (.istore_n 1, 1) := by decide +kernel
theorem dX8_dripping_2 : decode cX8_dripping 2 = .ok (.iconst 0, 1) := by decide +kernel
theorem dX8_dripping_3 : decode cX8_dripping 3 = .ok (.istore_n 2, 1) := by decide +kernel
theorem dX8_dripping_4 : decode cX8_dripping 4 = .ok (.iload_n 2, 1) := by decide +kernel
theorem dX8_dripping_5 : decode cX8_dripping 5 = .ok (.aload_n 0, 1) := by decide +kernel
theorem dX8_dripping_6 : decode cX8_dripping 6 = .ok (.getfield 13, 3) := by decide +kernel
theorem dX8_dripping_9 : decode cX8_dripping 9 = .ok (.iconst 0, 1) := by decide +kernel
theorem dX8_dripping_10 : decode cX8_dripping 10 = .ok (.iaload, 1) := by decide +kernel
theorem dX8_dripping_11 : decode cX8_dripping 11 = .ok (.if_icmp .ge 27, 3) := by decide +kernel
theorem dX8_dripping_38 : decode cX8_dripping 38 = .ok (.iload_n 1, 1) := by decide +kernel
theorem dX8_dripping_39 : decode cX8_dripping 39 = .ok (.ireturn, 1) := by decide +kernel
theorem dX8_dripping_14 : decode cX8_dripping 14 = .ok (.iload_n 1, 1) := by decide +kernel
theorem dX8_dripping_15 : decode cX8_dripping 15 = .ok (.aload_n 0, 1) := by decide +kernel
theorem dX8_dripping_16 : decode cX8_dripping 16 = .ok (.iload_n 2, 1) := by decide +kernel
theorem dX8_dripping_17 : decode cX8_dripping 17 = .ok (.invokevirtual 167, 3) := by decide +kernel
theorem hdm_yX8_drips : HD yX8_drips RX8 1 := by decide +kernel
theorem mwm_417 : Cond.methodLink RX8 167 yX8_drips ∈ wsL_law := List.mem_of_getElem? (i := 417) (by decide +kernel)
theorem mwm_418 : Cond.instanceMethod yX8_drips ∈ wsL_law := List.mem_of_getElem? (i := 418) (by decide +kernel)
theorem mwm_419 : Cond.selects RX8 yX8_drips yX8_drips ∈ wsL_law := List.mem_of_getElem? (i := 419) (by decide +kernel)
theorem mwm_420 : Cond.code yX8_drips cX8_drips 2 (some .boolean) ∈ wsL_law := List.mem_of_getElem? (i := 420) (by decide +kernel)
theorem dX8_dripping_20 : decode cX8_dripping 20 = .ok (.ifCond .eq 9, 3) := by decide +kernel
theorem dX8_dripping_29 : decode cX8_dripping 29 = .ok (.iconst 0, 1) := by decide +kernel
theorem dX8_dripping_30 : decode cX8_dripping 30 = .ok (.ior, 1) := by decide +kernel
theorem dX8_dripping_31 : decode cX8_dripping 31 = .ok (.istore_n 1, 1) := by decide +kernel
theorem dX8_dripping_32 : decode cX8_dripping 32 = .ok (.iinc 2 1, 3) := by decide +kernel
theorem dX8_dripping_35 : decode cX8_dripping 35 = .ok (.goto (-31), 3) := by decide +kernel
theorem dX8_dripping_23 : decode cX8_dripping 23 = .ok (.iconst 1, 1) := by decide +kernel
theorem dX8_dripping_24 : decode cX8_dripping 24 = .ok (.iload_n 2, 1) := by decide +kernel
theorem dX8_dripping_25 : decode cX8_dripping 25 = .ok (.ishl, 1) := by decide +kernel
theorem dX8_dripping_26 : decode cX8_dripping 26 = .ok (.goto 4, 3) := by decide +kernel
theorem dX8_sumIn_0 : decode cX8_sumIn 0 = .ok (.iconst 0, 1) := by decide +kernel
theorem dX8_sumIn_1 : decode cX8_sumIn 1 = .ok (.istore_n 3, 1) := by decide +kernel
theorem dX8_sumIn_2 : decode cX8_sumIn 2 = .ok (.iconst 0, 1) := by decide +kernel
theorem dX8_sumIn_3 : decode cX8_sumIn 3 = .ok (.istore 4, 2) := by decide +kernel
theorem dX8_sumIn_5 : decode cX8_sumIn 5 = .ok (.iload 4, 2) := by decide +kernel
theorem dX8_sumIn_7 : decode cX8_sumIn 7 = .ok (.aload_n 0, 1) := by decide +kernel
theorem dX8_sumIn_8 : decode cX8_sumIn 8 = .ok (.getfield 13, 3) := by decide +kernel
theorem dX8_sumIn_11 : decode cX8_sumIn 11 = .ok (.bipush 39, 2) := by decide +kernel
theorem dX8_sumIn_13 : decode cX8_sumIn 13 = .ok (.iload_n 1, 1) := by decide +kernel
theorem dX8_sumIn_14 : decode cX8_sumIn 14 = .ok (.iadd, 1) := by decide +kernel
theorem dX8_sumIn_15 : decode cX8_sumIn 15 = .ok (.iaload, 1) := by decide +kernel
theorem dX8_sumIn_16 : decode cX8_sumIn 16 = .ok (.if_icmp .ge 26, 3) := by decide +kernel
theorem dX8_sumIn_42 : decode cX8_sumIn 42 = .ok (.iload_n 3, 1) := by decide +kernel
theorem dX8_sumIn_43 : decode cX8_sumIn 43 = .ok (.ireturn, 1) := by decide +kernel
theorem dX8_sumIn_19 : decode cX8_sumIn 19 = .ok (.iload_n 3, 1) := by decide +kernel
theorem dX8_sumIn_20 : decode cX8_sumIn 20 = .ok (.aload_n 0, 1) := by decide +kernel
theorem dX8_sumIn_21 : decode cX8_sumIn 21 = .ok (.getfield 13, 3) := by decide +kernel
theorem dX8_sumIn_24 : decode cX8_sumIn 24 = .ok (.iload_n 2, 1) := by decide +kernel
theorem dX8_sumIn_25 : decode cX8_sumIn 25 = .ok (.bipush 6, 2) := by decide +kernel
theorem dX8_sumIn_27 : decode cX8_sumIn 27 = .ok (.iload_n 1, 1) := by decide +kernel
theorem dX8_sumIn_28 : decode cX8_sumIn 28 = .ok (.imul, 1) := by decide +kernel
theorem dX8_sumIn_29 : decode cX8_sumIn 29 = .ok (.iadd, 1) := by decide +kernel
theorem dX8_sumIn_30 : decode cX8_sumIn 30 = .ok (.iload 4, 2) := by decide +kernel
theorem dX8_sumIn_32 : decode cX8_sumIn 32 = .ok (.iadd, 1) := by decide +kernel
theorem dX8_sumIn_33 : decode cX8_sumIn 33 = .ok (.iaload, 1) := by decide +kernel
theorem dX8_sumIn_34 : decode cX8_sumIn 34 = .ok (.iadd, 1) := by decide +kernel
theorem dX8_sumIn_35 : decode cX8_sumIn 35 = .ok (.istore_n 3, 1) := by decide +kernel
theorem dX8_sumIn_36 : decode cX8_sumIn 36 = .ok (.iinc 4 1, 3) := by decide +kernel
theorem dX8_sumIn_39 : decode cX8_sumIn 39 = .ok (.goto (-34), 3) := by decide +kernel
theorem dX8_sumAll_0 : decode cX8_sumAll 0 = .ok (.iconst 0, 1) := by decide +kernel
theorem dX8_sumAll_1 : decode cX8_sumAll 1 = .ok (.istore_n 2, 1) := by decide +kernel
theorem dX8_sumAll_2 : decode cX8_sumAll 2 = .ok (.iconst 0, 1) := by decide +kernel
theorem dX8_sumAll_3 : decode cX8_sumAll 3 = .ok (.istore_n 3, 1) := by decide +kernel
theorem dX8_sumAll_4 : decode cX8_sumAll 4 = .ok (.iload_n 3, 1) := by decide +kernel
theorem dX8_sumAll_5 : decode cX8_sumAll 5 = .ok (.aload_n 0, 1) := by decide +kernel
theorem dX8_sumAll_6 : decode cX8_sumAll 6 = .ok (.getfield 13, 3) := by decide +kernel
theorem dX8_sumAll_9 : decode cX8_sumAll 9 = .ok (.iconst 0, 1) := by decide +kernel
theorem dX8_sumAll_10 : decode cX8_sumAll 10 = .ok (.iaload, 1) := by decide +kernel
theorem dX8_sumAll_11 : decode cX8_sumAll 11 = .ok (.if_icmp .ge 18, 3) := by decide +kernel
theorem dX8_sumAll_29 : decode cX8_sumAll 29 = .ok (.iload_n 2, 1) := by decide +kernel
theorem dX8_sumAll_30 : decode cX8_sumAll 30 = .ok (.ireturn, 1) := by decide +kernel
theorem dX8_sumAll_14 : decode cX8_sumAll 14 = .ok (.iload_n 2, 1) := by decide +kernel
theorem dX8_sumAll_15 : decode cX8_sumAll 15 = .ok (.aload_n 0, 1) := by decide +kernel
theorem dX8_sumAll_16 : decode cX8_sumAll 16 = .ok (.iload_n 3, 1) := by decide +kernel
theorem dX8_sumAll_17 : decode cX8_sumAll 17 = .ok (.iload_n 1, 1) := by decide +kernel
theorem dX8_sumAll_18 : decode cX8_sumAll 18 = .ok (.invokevirtual 170, 3) := by decide +kernel
theorem hdm_yX8_sumIn : HD yX8_sumIn RX8 2 := by decide +kernel
theorem mwm_433 : Cond.methodLink RX8 170 yX8_sumIn ∈ wsL_law := List.mem_of_getElem? (i := 433) (by decide +kernel)
theorem mwm_434 : Cond.instanceMethod yX8_sumIn ∈ wsL_law := List.mem_of_getElem? (i := 434) (by decide +kernel)
theorem mwm_435 : Cond.selects RX8 yX8_sumIn yX8_sumIn ∈ wsL_law := List.mem_of_getElem? (i := 435) (by decide +kernel)
theorem mwm_436 : Cond.code yX8_sumIn cX8_sumIn 5 (some .int) ∈ wsL_law := List.mem_of_getElem? (i := 436) (by decide +kernel)
theorem dX8_sumAll_21 : decode cX8_sumAll 21 = .ok (.iadd, 1) := by decide +kernel
theorem dX8_sumAll_22 : decode cX8_sumAll 22 = .ok (.istore_n 2, 1) := by decide +kernel
theorem dX8_sumAll_23 : decode cX8_sumAll 23 = .ok (.iinc 3 1, 3) := by decide +kernel
theorem dX8_sumAll_26 : decode cX8_sumAll 26 = .ok (.goto (-22), 3) := by decide +kernel
theorem dX8_laidAll_0 : decode cX8_laidAll 0 = .ok (.iconst 0, 1) := by decide +kernel
theorem dX8_laidAll_1 : decode cX8_laidAll 1 = .ok (.istore_n 1, 1) := by decide +kernel
theorem dX8_laidAll_2 : decode cX8_laidAll 2 = .ok (.iconst 0, 1) := by decide +kernel
theorem dX8_laidAll_3 : decode cX8_laidAll 3 = .ok (.istore_n 2, 1) := by decide +kernel
theorem dX8_laidAll_4 : decode cX8_laidAll 4 = .ok (.iload_n 2, 1) := by decide +kernel
theorem dX8_laidAll_5 : decode cX8_laidAll 5 = .ok (.aload_n 0, 1) := by decide +kernel
theorem dX8_laidAll_6 : decode cX8_laidAll 6 = .ok (.getfield 13, 3) := by decide +kernel
theorem dX8_laidAll_9 : decode cX8_laidAll 9 = .ok (.iconst 0, 1) := by decide +kernel
theorem dX8_laidAll_10 : decode cX8_laidAll 10 = .ok (.iaload, 1) := by decide +kernel
theorem dX8_laidAll_11 : decode cX8_laidAll 11 = .ok (.if_icmp .ge 21, 3) := by decide +kernel
theorem dX8_laidAll_32 : decode cX8_laidAll 32 = .ok (.iload_n 1, 1) := by decide +kernel
theorem dX8_laidAll_33 : decode cX8_laidAll 33 = .ok (.ireturn, 1) := by decide +kernel
theorem dX8_laidAll_14 : decode cX8_laidAll 14 = .ok (.iload_n 1, 1) := by decide +kernel
theorem dX8_laidAll_15 : decode cX8_laidAll 15 = .ok (.aload_n 0, 1) := by decide +kernel
theorem dX8_laidAll_16 : decode cX8_laidAll 16 = .ok (.getfield 13, 3) := by decide +kernel
theorem dX8_laidAll_19 : decode cX8_laidAll 19 = .ok (.bipush 29, 2) := by decide +kernel
theorem dX8_laidAll_21 : decode cX8_laidAll 21 = .ok (.iload_n 2, 1) := by decide +kernel
theorem dX8_laidAll_22 : decode cX8_laidAll 22 = .ok (.iadd, 1) := by decide +kernel
theorem dX8_laidAll_23 : decode cX8_laidAll 23 = .ok (.iaload, 1) := by decide +kernel
theorem dX8_laidAll_24 : decode cX8_laidAll 24 = .ok (.iadd, 1) := by decide +kernel
theorem dX8_laidAll_25 : decode cX8_laidAll 25 = .ok (.istore_n 1, 1) := by decide +kernel
theorem dX8_laidAll_26 : decode cX8_laidAll 26 = .ok (.iinc 2 1, 3) := by decide +kernel
theorem dX8_laidAll_29 : decode cX8_laidAll 29 = .ok (.goto (-25), 3) := by decide +kernel
theorem dX8_layersAll_0 : decode cX8_layersAll 0 = .ok (.iconst 0, 1) := by decide +kernel
theorem dX8_layersAll_1 : decode cX8_layersAll 1 = .ok (.istore_n 1, 1) := by decide +kernel
theorem dX8_layersAll_2 : decode cX8_layersAll 2 = .ok (.iconst 0, 1) := by decide +kernel
theorem dX8_layersAll_3 : decode cX8_layersAll 3 = .ok (.istore_n 2, 1) := by decide +kernel
theorem dX8_layersAll_4 : decode cX8_layersAll 4 = .ok (.iload_n 2, 1) := by decide +kernel
theorem dX8_layersAll_5 : decode cX8_layersAll 5 = .ok (.aload_n 0, 1) := by decide +kernel
theorem dX8_layersAll_6 : decode cX8_layersAll 6 = .ok (.getfield 13, 3) := by decide +kernel
theorem dX8_layersAll_9 : decode cX8_layersAll 9 = .ok (.iconst 0, 1) := by decide +kernel
theorem dX8_layersAll_10 : decode cX8_layersAll 10 = .ok (.iaload, 1) := by decide +kernel
theorem dX8_layersAll_11 : decode cX8_layersAll 11 = .ok (.if_icmp .ge 21, 3) := by decide +kernel
theorem dX8_layersAll_32 : decode cX8_layersAll 32 = .ok (.iload_n 1, 1) := by decide +kernel
theorem dX8_layersAll_33 : decode cX8_layersAll 33 = .ok (.ireturn, 1) := by decide +kernel
theorem dX8_layersAll_14 : decode cX8_layersAll 14 = .ok (.iload_n 1, 1) := by decide +kernel
theorem dX8_layersAll_15 : decode cX8_layersAll 15 = .ok (.aload_n 0, 1) := by decide +kernel
theorem dX8_layersAll_16 : decode cX8_layersAll 16 = .ok (.getfield 13, 3) := by decide +kernel
theorem dX8_layersAll_19 : decode cX8_layersAll 19 = .ok (.bipush 39, 2) := by decide +kernel
theorem dX8_layersAll_21 : decode cX8_layersAll 21 = .ok (.iload_n 2, 1) := by decide +kernel
theorem dX8_layersAll_22 : decode cX8_layersAll 22 = .ok (.iadd, 1) := by decide +kernel
theorem dX8_layersAll_23 : decode cX8_layersAll 23 = .ok (.iaload, 1) := by decide +kernel
theorem dX8_layersAll_24 : decode cX8_layersAll 24 = .ok (.iadd, 1) := by decide +kernel
theorem dX8_layersAll_25 : decode cX8_layersAll 25 = .ok (.istore_n 1, 1) := by decide +kernel
theorem dX8_layersAll_26 : decode cX8_layersAll 26 = .ok (.iinc 2 1, 3) := by decide +kernel
theorem dX8_layersAll_29 : decode cX8_layersAll 29 = .ok (.goto (-25), 3) := by decide +kernel
set_option maxHeartbeats 4000000 in
set_option maxRecDepth 100000 in
theorem s_M_within (l : Launch) (D : va_G) (k : Nat → ClassId) (lx : Int64) (lo : Int64) (hi : Int64) : Met l yX8_within (Cond.code yX8_within cX8_within 6 (some .boolean) :: wsL_law) ({ frames := 0, cells := 0, slots := 0, locals := 0 } : Room) (va_Pc [.long lx, .long lo, .long hi] (pr D k [])) (vp_Si (fun rr => rr = if lo.toInt ≤ lx.toInt ∧ lx.toInt ≤ hi.toInt then 1 else 0)) 0 0 (fun _ => False) := by
  refine Met.ofW (cc := cX8_within) (maxL := 6) (ret := (some .boolean)) (by decide) rfl ?_
  intro p e s m args below meth c s₁ B hml hv
  obtain ⟨rfl, hP, hK, hN0⟩ := hv
  have hx := B.exec
  have hb := B.bytes
  have hr := B.returns
  have hts : ∀ w ∈ wsL_law, w.before _ s = true := fun w h => atoms_spec (ws := Cond.code yX8_within cX8_within 6 (some .boolean) :: wsL_law) B.pre w (List.mem_cons_of_mem _ h)
  have hown : s.vm.findClass RX8 = some m.cls := findClass_of_methodNamed B.named
  have hlocks := B.notSynchronized
  have hP : va_P D vwCl [] s.heap := hP
  have hl := lv_entry ([.long lx, .long lo, .long hi]) (n := 6) (Nat.le_of_ble_eq_true rfl)
  rw [lg_entry_eq]
  generalize (lg_sl ([.long lx, .long lo, .long hi]) ++ List.replicate (6 - (lg_sl ([.long lx, .long lo, .long hi])).length) Slot.unset).toArray = ls at hl ⊢
  have hl : lv_has ls 6 [(0, .long lx), (2, .long lo), (4, .long hi)] := hl
  refine lv_lload_n hx hb dX8_within_0 rfl (lv_at hl 0 rfl) ?_
  refine lv_lload_n hx hb dX8_within_1 rfl (lv_at hl 1 rfl) ?_
  refine W.lcmp hx hb dX8_within_2 ?_
  rcases lg3 lx lo with ⟨h_1, eh_1⟩ | ⟨h_1, eh_1⟩ | ⟨h_1, eh_1⟩
  · have h_1 : lx.toInt < lo.toInt := h_1
    refine lv_ni (v := (-1)) eh_1 ?_
    refine lv_if_lt (tgt := 17) hx hb dX8_within_3 (by decide) (fun _ => ?_) (fun c9 => absurd c9 (by decide))
    refine lv_iconst (v := 0) hx hb dX8_within_17 (by decide) ?_
    exact W.zret (v := 0) hx hb hr rfl (fun t ht hW => ⟨0, rfl, (by (repeat' split) <;> first | rfl | (exfalso; omega)), ht⟩) (fun q h => by cases h) dX8_within_18
  · have h_1 : lx.toInt = lo.toInt := h_1
    refine lv_ni (v := 0) eh_1 ?_
    refine lv_if_lt (tgt := 17) hx hb dX8_within_3 (by decide) (fun c9 => absurd c9 (by decide)) (fun _ => ?_)
    refine lv_lload_n hx hb dX8_within_6 rfl (lv_at hl 0 rfl) ?_
    refine lv_lload hx hb dX8_within_7 (lv_at hl 2 rfl) ?_
    refine W.lcmp hx hb dX8_within_9 ?_
    rcases lg3 lx hi with ⟨h_2, eh_2⟩ | ⟨h_2, eh_2⟩ | ⟨h_2, eh_2⟩
    · have h_2 : lx.toInt < hi.toInt := h_2
      refine lv_ni (v := (-1)) eh_2 ?_
      refine lv_if_gt (tgt := 17) hx hb dX8_within_10 (by decide) (fun c9 => absurd c9 (by decide)) (fun _ => ?_)
      refine lv_iconst (v := 1) hx hb dX8_within_13 (by decide) ?_
      refine lv_goto (tgt := 18) hx hb dX8_within_14 (by decide) ?_
      exact W.zret (v := 1) hx hb hr rfl (fun t ht hW => ⟨1, rfl, (by (repeat' split) <;> first | rfl | (exfalso; omega)), ht⟩) (fun q h => by cases h) dX8_within_18
    · have h_2 : lx.toInt = hi.toInt := h_2
      refine lv_ni (v := 0) eh_2 ?_
      refine lv_if_gt (tgt := 17) hx hb dX8_within_10 (by decide) (fun c9 => absurd c9 (by decide)) (fun _ => ?_)
      refine lv_iconst (v := 1) hx hb dX8_within_13 (by decide) ?_
      refine lv_goto (tgt := 18) hx hb dX8_within_14 (by decide) ?_
      exact W.zret (v := 1) hx hb hr rfl (fun t ht hW => ⟨1, rfl, (by (repeat' split) <;> first | rfl | (exfalso; omega)), ht⟩) (fun q h => by cases h) dX8_within_18
    · have h_2 : lx.toInt > hi.toInt := h_2
      refine lv_ni (v := 1) eh_2 ?_
      refine lv_if_gt (tgt := 17) hx hb dX8_within_10 (by decide) (fun _ => ?_) (fun c9 => absurd c9 (by decide))
      refine lv_iconst (v := 0) hx hb dX8_within_17 (by decide) ?_
      exact W.zret (v := 0) hx hb hr rfl (fun t ht hW => ⟨0, rfl, (by (repeat' split) <;> first | rfl | (exfalso; omega)), ht⟩) (fun q h => by cases h) dX8_within_18
  · have h_1 : lx.toInt > lo.toInt := h_1
    refine lv_ni (v := 1) eh_1 ?_
    refine lv_if_lt (tgt := 17) hx hb dX8_within_3 (by decide) (fun c9 => absurd c9 (by decide)) (fun _ => ?_)
    refine lv_lload_n hx hb dX8_within_6 rfl (lv_at hl 0 rfl) ?_
    refine lv_lload hx hb dX8_within_7 (lv_at hl 2 rfl) ?_
    refine W.lcmp hx hb dX8_within_9 ?_
    rcases lg3 lx hi with ⟨h_3, eh_3⟩ | ⟨h_3, eh_3⟩ | ⟨h_3, eh_3⟩
    · have h_3 : lx.toInt < hi.toInt := h_3
      refine lv_ni (v := (-1)) eh_3 ?_
      refine lv_if_gt (tgt := 17) hx hb dX8_within_10 (by decide) (fun c9 => absurd c9 (by decide)) (fun _ => ?_)
      refine lv_iconst (v := 1) hx hb dX8_within_13 (by decide) ?_
      refine lv_goto (tgt := 18) hx hb dX8_within_14 (by decide) ?_
      exact W.zret (v := 1) hx hb hr rfl (fun t ht hW => ⟨1, rfl, (by (repeat' split) <;> first | rfl | (exfalso; omega)), ht⟩) (fun q h => by cases h) dX8_within_18
    · have h_3 : lx.toInt = hi.toInt := h_3
      refine lv_ni (v := 0) eh_3 ?_
      refine lv_if_gt (tgt := 17) hx hb dX8_within_10 (by decide) (fun c9 => absurd c9 (by decide)) (fun _ => ?_)
      refine lv_iconst (v := 1) hx hb dX8_within_13 (by decide) ?_
      refine lv_goto (tgt := 18) hx hb dX8_within_14 (by decide) ?_
      exact W.zret (v := 1) hx hb hr rfl (fun t ht hW => ⟨1, rfl, (by (repeat' split) <;> first | rfl | (exfalso; omega)), ht⟩) (fun q h => by cases h) dX8_within_18
    · have h_3 : lx.toInt > hi.toInt := h_3
      refine lv_ni (v := 1) eh_3 ?_
      refine lv_if_gt (tgt := 17) hx hb dX8_within_10 (by decide) (fun _ => ?_) (fun c9 => absurd c9 (by decide))
      refine lv_iconst (v := 0) hx hb dX8_within_17 (by decide) ?_
      exact W.zret (v := 0) hx hb hr rfl (fun t ht hW => ⟨0, rfl, (by (repeat' split) <;> first | rfl | (exfalso; omega)), ht⟩) (fun q h => by cases h) dX8_within_18
set_option maxHeartbeats 4000000 in
set_option maxRecDepth 100000 in
theorem s_M_isSlate (l : Launch) (D : va_G) (k : Nat → ClassId) (mm : Nat → Nat) (mf : Nat → Int32) (f : Nat → Int32) (r : Int32) (w_hf : AI f 0) (w_hr : 0 ≤ r.toInt ∧ r.toInt ≤ 9) : Met l yX8_isSlate (Cond.code yX8_isSlate cX8_isSlate 2 (some .boolean) :: wsL_law) ({ frames := 0, cells := 0, slots := 0, locals := 0 } : Room) (va_Pc [.ref (mm 0), .int r] (pr D k [((mm 0), .inr (7, [.int (mf 0), .ref (mm 1), .ref (mm 2), .ref (mm 3), .ref (mm 4), .ref (mm 5), .int (mf 6), .int (mf 7), .int (mf 8), .int (mf 9), .int (mf 10), .int (mf 11), .int (mf 12), .int (mf 13), .int (mf 14), .int (mf 15), .int (mf 16), .ref (mm 6), .int (mf 18), .ref (mm 7), .ref (mm 8), .ref (mm 9), .int (mf 22), .ref (mm 10), .ref (mm 11), .int (mf 25), .int (mf 26), .ref (mm 12), .ref (mm 13), .int (mf 29), .ref (mm 14), .ref (mm 15), .ref (mm 16)])), ((mm 1), .inl (k 0, 1227, .inl f))])) (vp_Si (fun rr => 0 ≤ rr.toInt ∧ rr.toInt ≤ 1)) 0 0 (fun _ => False) := by
  refine Met.ofW (cc := cX8_isSlate) (maxL := 2) (ret := (some .boolean)) (by decide) rfl ?_
  intro p e s m args below meth c s₁ B hml hv
  obtain ⟨rfl, hP, hK, hN0⟩ := hv
  have hx := B.exec
  have hb := B.bytes
  have hr := B.returns
  have hts : ∀ w ∈ wsL_law, w.before _ s = true := fun w h => atoms_spec (ws := Cond.code yX8_isSlate cX8_isSlate 2 (some .boolean) :: wsL_law) B.pre w (List.mem_cons_of_mem _ h)
  have hown : s.vm.findClass RX8 = some m.cls := findClass_of_methodNamed B.named
  have hlocks := B.notSynchronized
  have hP : va_P D vwCl [((mm 0), .inr (7, [.int (mf 0), .ref (mm 1), .ref (mm 2), .ref (mm 3), .ref (mm 4), .ref (mm 5), .int (mf 6), .int (mf 7), .int (mf 8), .int (mf 9), .int (mf 10), .int (mf 11), .int (mf 12), .int (mf 13), .int (mf 14), .int (mf 15), .int (mf 16), .ref (mm 6), .int (mf 18), .ref (mm 7), .ref (mm 8), .ref (mm 9), .int (mf 22), .ref (mm 10), .ref (mm 11), .int (mf 25), .int (mf 26), .ref (mm 12), .ref (mm 13), .int (mf 29), .ref (mm 14), .ref (mm 15), .ref (mm 16)])), ((mm 1), .inl (k 0, 1227, .inl f))] s.heap := hP
  have hl := lv_entry ([.ref (mm 0), .int r]) (n := 2) (Nat.le_of_ble_eq_true rfl)
  rw [lg_entry_eq]
  generalize (lg_sl ([.ref (mm 0), .int r]) ++ List.replicate (2 - (lg_sl ([.ref (mm 0), .int r])).length) Slot.unset).toArray = ls at hl ⊢
  have hl : lv_has ls 2 [(0, .ref (mm 0)), (1, .int r)] := hl
  refine lv_aload_n hx hb dX8_isSlate_0 rfl (lv_at hl 0 rfl) ?_
  refine va_get (D := D) (ci := 7) (v := .ref (mm 1)) (C := RX8) (T := TX8) (N := 33) hx hb hts inlX8 hown hK hP 0 rfl rfl 1 (by decide) (hts _ mwm_91) (fun _ h9 => h9) rfl dX8_isSlate_1 ?_
  refine lv_bipush (v := 9) hx hb dX8_isSlate_4 (by decide) ?_
  refine lv_iload_n hx hb dX8_isSlate_6 rfl (lv_at hl 1 rfl) ?_
  refine lv_iadd hx hb dX8_isSlate_7 ?_
  refine lv_topi (fun z_1 ez_1 => ?_)
  have tz_1 : z_1.toInt = 9 + r.toInt := by rw [ez_1]; exact ti_addcl (by decide) (by omega) (by omega)
  refine va_iald hx hb hK hP 1 0 rfl rfl (vp_in_o (by omega) (by omega)) dX8_isSlate_8 ?_
  refine lv_topi (fun z_2 ez_2 => ?_)
  have cz_2 : cv (z_1.toInt.toNat - 0) z_2 := by rw [ez_2, ti_cl]; exact AI_at w_hf (by omega) (by omega)
  refine lv_iconst (v := 1) hx hb dX8_isSlate_9 (by decide) ?_
  refine lv_icmp_ne (tgt := 17) hx hb dX8_isSlate_10 (by decide) (fun c_3 => ?_) (fun c_3 => ?_)
  · have c_3 : z_2.toInt ≠ 1 := ti_ne c_3
    refine lv_iconst (v := 0) hx hb dX8_isSlate_17 (by decide) ?_
    exact W.zret (v := 0) hx hb hr rfl (fun t ht hW => ⟨0, rfl, ⟨by decide, by decide⟩, ht⟩) (fun q h => by cases h) dX8_isSlate_18
  · have c_3 : z_2.toInt = 1 := ti_eq c_3
    have qc_3 : z_2 = 1 := ti_of (show z_2.toInt = 1 from by omega)
    refine lv_iconst (v := 1) hx hb dX8_isSlate_13 (by decide) ?_
    refine lv_goto (tgt := 18) hx hb dX8_isSlate_14 (by decide) ?_
    exact W.zret (v := 1) hx hb hr rfl (fun t ht hW => ⟨1, rfl, ⟨by decide, by decide⟩, ht⟩) (fun q h => by cases h) dX8_isSlate_18
set_option maxHeartbeats 4000000 in
set_option maxRecDepth 100000 in
theorem s_M_giver (l : Launch) (D : va_G) (k : Nat → ClassId) (mm : Nat → Nat) (mf : Nat → Int32) (f : Nat → Int32) (r : Int32) (w_hf : AI f 0) (w_hr : 0 ≤ r.toInt ∧ r.toInt ≤ 9) : Met l yX8_giver (Cond.code yX8_giver cX8_giver 2 (some .int) :: wsL_law) ({ frames := 0, cells := 0, slots := 0, locals := 0 } : Room) (va_Pc [.ref (mm 0), .int r] (pr D k [((mm 0), .inr (7, [.int (mf 0), .ref (mm 1), .ref (mm 2), .ref (mm 3), .ref (mm 4), .ref (mm 5), .int (mf 6), .int (mf 7), .int (mf 8), .int (mf 9), .int (mf 10), .int (mf 11), .int (mf 12), .int (mf 13), .int (mf 14), .int (mf 15), .int (mf 16), .ref (mm 6), .int (mf 18), .ref (mm 7), .ref (mm 8), .ref (mm 9), .int (mf 22), .ref (mm 10), .ref (mm 11), .int (mf 25), .int (mf 26), .ref (mm 12), .ref (mm 13), .int (mf 29), .ref (mm 14), .ref (mm 15), .ref (mm 16)])), ((mm 1), .inl (k 0, 1227, .inl f))])) (vp_Si (fun rr => -1 ≤ rr.toInt ∧ rr.toInt ≤ 9)) 0 0 (fun _ => False) := by
  refine Met.ofW (cc := cX8_giver) (maxL := 2) (ret := (some .int)) (by decide) rfl ?_
  intro p e s m args below meth c s₁ B hml hv
  obtain ⟨rfl, hP, hK, hN0⟩ := hv
  have hx := B.exec
  have hb := B.bytes
  have hr := B.returns
  have hts : ∀ w ∈ wsL_law, w.before _ s = true := fun w h => atoms_spec (ws := Cond.code yX8_giver cX8_giver 2 (some .int) :: wsL_law) B.pre w (List.mem_cons_of_mem _ h)
  have hown : s.vm.findClass RX8 = some m.cls := findClass_of_methodNamed B.named
  have hlocks := B.notSynchronized
  have hP : va_P D vwCl [((mm 0), .inr (7, [.int (mf 0), .ref (mm 1), .ref (mm 2), .ref (mm 3), .ref (mm 4), .ref (mm 5), .int (mf 6), .int (mf 7), .int (mf 8), .int (mf 9), .int (mf 10), .int (mf 11), .int (mf 12), .int (mf 13), .int (mf 14), .int (mf 15), .int (mf 16), .ref (mm 6), .int (mf 18), .ref (mm 7), .ref (mm 8), .ref (mm 9), .int (mf 22), .ref (mm 10), .ref (mm 11), .int (mf 25), .int (mf 26), .ref (mm 12), .ref (mm 13), .int (mf 29), .ref (mm 14), .ref (mm 15), .ref (mm 16)])), ((mm 1), .inl (k 0, 1227, .inl f))] s.heap := hP
  have hl := lv_entry ([.ref (mm 0), .int r]) (n := 2) (Nat.le_of_ble_eq_true rfl)
  rw [lg_entry_eq]
  generalize (lg_sl ([.ref (mm 0), .int r]) ++ List.replicate (2 - (lg_sl ([.ref (mm 0), .int r])).length) Slot.unset).toArray = ls at hl ⊢
  have hl : lv_has ls 2 [(0, .ref (mm 0)), (1, .int r)] := hl
  refine lv_iload_n hx hb dX8_giver_0 rfl (lv_at hl 1 rfl) ?_
  refine lv_if_le (tgt := 10) hx hb dX8_giver_1 (by decide) (fun c_1 => ?_) (fun c_1 => ?_)
  · have c_1 : r.toInt ≤ 0 := ti_le c_1
    have qc_1 : r = 0 := ti_of (show r.toInt = 0 from by omega)
    refine lv_aload_n hx hb dX8_giver_10 rfl (lv_at hl 0 rfl) ?_
    refine va_get (D := D) (ci := 7) (v := .ref (mm 1)) (C := RX8) (T := TX8) (N := 33) hx hb hts inlX8 hown hK hP 0 rfl rfl 1 (by decide) (hts _ mwm_91) (fun _ h9 => h9) rfl dX8_giver_11 ?_
    refine lv_bipush (v := 6) hx hb dX8_giver_14 (by decide) ?_
    refine va_iald hx hb hK hP 1 0 rfl rfl (vp_in_c (by decide)) dX8_giver_16 ?_
    refine lv_topi (fun z_2 ez_2 => ?_)
    have cz_2 : cv 6 z_2 := by rw [ez_2]; exact AI_at (n := 6) w_hf (by decide) (by decide)
    refine lv_iconst (v := 1) hx hb dX8_giver_17 (by decide) ?_
    refine lv_icmp_ne (tgt := 42) hx hb dX8_giver_18 (by decide) (fun c_3 => ?_) (fun c_3 => ?_)
    · have c_3 : z_2.toInt ≠ 1 := ti_ne c_3
      refine lv_iconst (v := (-1)) hx hb dX8_giver_42 (by decide) ?_
      exact W.iret (v := (-1)) hx hb hr (fun t ht hW => ⟨(-1), rfl, ⟨by decide, by decide⟩, ht⟩) (fun q h => by cases h) dX8_giver_43
    · have c_3 : z_2.toInt = 1 := ti_eq c_3
      have qc_3 : z_2 = 1 := ti_of (show z_2.toInt = 1 from by omega)
      refine lv_aload_n hx hb dX8_giver_21 rfl (lv_at hl 0 rfl) ?_
      refine va_get (D := D) (ci := 7) (v := .ref (mm 1)) (C := RX8) (T := TX8) (N := 33) hx hb hts inlX8 hown hK hP 0 rfl rfl 1 (by decide) (hts _ mwm_91) (fun _ h9 => h9) rfl dX8_giver_22 ?_
      refine lv_iconst (v := 0) hx hb dX8_giver_25 (by decide) ?_
      refine va_iald hx hb hK hP 1 0 rfl rfl (vp_in_c (by decide)) dX8_giver_26 ?_
      refine lv_topi (fun z_4 ez_4 => ?_)
      have cz_4 : cv 0 z_4 := by rw [ez_4]; exact AI_at (n := 0) w_hf (by decide) (by decide)
      have bz_4 : 0 ≤ z_4.toInt ∧ z_4.toInt ≤ 10 := cz_4.1 (by decide)
      refine lv_iconst (v := 1) hx hb dX8_giver_27 (by decide) ?_
      refine lv_icmp_le (tgt := 42) hx hb dX8_giver_28 (by decide) (fun c_5 => ?_) (fun c_5 => ?_)
      · have c_5 : z_4.toInt ≤ 1 := ti_le c_5
        refine lv_iconst (v := (-1)) hx hb dX8_giver_42 (by decide) ?_
        exact W.iret (v := (-1)) hx hb hr (fun t ht hW => ⟨(-1), rfl, ⟨by decide, by decide⟩, ht⟩) (fun q h => by cases h) dX8_giver_43
      · have c_5 : 1 < z_4.toInt := ti_nle c_5
        refine lv_aload_n hx hb dX8_giver_31 rfl (lv_at hl 0 rfl) ?_
        refine va_get (D := D) (ci := 7) (v := .ref (mm 1)) (C := RX8) (T := TX8) (N := 33) hx hb hts inlX8 hown hK hP 0 rfl rfl 1 (by decide) (hts _ mwm_91) (fun _ h9 => h9) rfl dX8_giver_32 ?_
        refine lv_iconst (v := 0) hx hb dX8_giver_35 (by decide) ?_
        refine va_iald hx hb hK hP 1 0 rfl rfl (vp_in_c (by decide)) dX8_giver_36 ?_
        refine lv_topi (fun z_6 ez_6 => ?_)
        have cz_6 : cv 0 z_6 := by rw [ez_6]; exact AI_at (n := 0) w_hf (by decide) (by decide)
        have bz_6 : 0 ≤ z_6.toInt ∧ z_6.toInt ≤ 10 := cz_6.1 (by decide)
        refine lv_iconst (v := 1) hx hb dX8_giver_37 (by decide) ?_
        refine lv_isub hx hb dX8_giver_38 ?_
        refine lv_topi (fun z_7 ez_7 => ?_)
        have tz_7 : z_7.toInt = z_6.toInt - 1 := by rw [ez_7]; exact ti_subc (by decide) (by omega) (by omega)
        refine lv_goto (tgt := 43) hx hb dX8_giver_39 (by decide) ?_
        exact W.iret (v := z_7) hx hb hr (fun t ht hW => ⟨z_7, rfl, ⟨by omega, by omega⟩, ht⟩) (fun q h => by cases h) dX8_giver_43
  · have c_1 : 0 < r.toInt := ti_nle c_1
    refine lv_iload_n hx hb dX8_giver_4 rfl (lv_at hl 1 rfl) ?_
    refine lv_iconst (v := 1) hx hb dX8_giver_5 (by decide) ?_
    refine lv_isub hx hb dX8_giver_6 ?_
    refine lv_topi (fun z_8 ez_8 => ?_)
    have tz_8 : z_8.toInt = r.toInt - 1 := by rw [ez_8]; exact ti_subc (by decide) (by omega) (by omega)
    refine lv_goto (tgt := 43) hx hb dX8_giver_7 (by decide) ?_
    exact W.iret (v := z_8) hx hb hr (fun t ht hW => ⟨z_8, rfl, ⟨by omega, by omega⟩, ht⟩) (fun q h => by cases h) dX8_giver_43
set_option maxHeartbeats 4000000 in
set_option maxRecDepth 100000 in
theorem s_M_isSound (l : Launch) (D : va_G) (k : Nat → ClassId) (mm : Nat → Nat) (mf : Nat → Int32) (f : Nat → Int32) (x : Int32) (w_hf : AI f 0) (w_hx : 0 ≤ x.toInt ∧ x.toInt ≤ 59) : Met l yX8_isSound (Cond.code yX8_isSound cX8_isSound 2 (some .boolean) :: wsL_law) ({ frames := 0, cells := 0, slots := 0, locals := 0 } : Room) (va_Pc [.ref (mm 0), .int x] (pr D k [((mm 0), .inr (7, [.int (mf 0), .ref (mm 1), .ref (mm 2), .ref (mm 3), .ref (mm 4), .ref (mm 5), .int (mf 6), .int (mf 7), .int (mf 8), .int (mf 9), .int (mf 10), .int (mf 11), .int (mf 12), .int (mf 13), .int (mf 14), .int (mf 15), .int (mf 16), .ref (mm 6), .int (mf 18), .ref (mm 7), .ref (mm 8), .ref (mm 9), .int (mf 22), .ref (mm 10), .ref (mm 11), .int (mf 25), .int (mf 26), .ref (mm 12), .ref (mm 13), .int (mf 29), .ref (mm 14), .ref (mm 15), .ref (mm 16)])), ((mm 1), .inl (k 0, 1227, .inl f))])) (vp_Si (fun rr => 0 ≤ rr.toInt ∧ rr.toInt ≤ 1)) 0 0 (fun _ => False) := by
  refine Met.ofW (cc := cX8_isSound) (maxL := 2) (ret := (some .boolean)) (by decide) rfl ?_
  intro p e s m args below meth c s₁ B hml hv
  obtain ⟨rfl, hP, hK, hN0⟩ := hv
  have hx := B.exec
  have hb := B.bytes
  have hr := B.returns
  have hts : ∀ w ∈ wsL_law, w.before _ s = true := fun w h => atoms_spec (ws := Cond.code yX8_isSound cX8_isSound 2 (some .boolean) :: wsL_law) B.pre w (List.mem_cons_of_mem _ h)
  have hown : s.vm.findClass RX8 = some m.cls := findClass_of_methodNamed B.named
  have hlocks := B.notSynchronized
  have hP : va_P D vwCl [((mm 0), .inr (7, [.int (mf 0), .ref (mm 1), .ref (mm 2), .ref (mm 3), .ref (mm 4), .ref (mm 5), .int (mf 6), .int (mf 7), .int (mf 8), .int (mf 9), .int (mf 10), .int (mf 11), .int (mf 12), .int (mf 13), .int (mf 14), .int (mf 15), .int (mf 16), .ref (mm 6), .int (mf 18), .ref (mm 7), .ref (mm 8), .ref (mm 9), .int (mf 22), .ref (mm 10), .ref (mm 11), .int (mf 25), .int (mf 26), .ref (mm 12), .ref (mm 13), .int (mf 29), .ref (mm 14), .ref (mm 15), .ref (mm 16)])), ((mm 1), .inl (k 0, 1227, .inl f))] s.heap := hP
  have hl := lv_entry ([.ref (mm 0), .int x]) (n := 2) (Nat.le_of_ble_eq_true rfl)
  rw [lg_entry_eq]
  generalize (lg_sl ([.ref (mm 0), .int x]) ++ List.replicate (2 - (lg_sl ([.ref (mm 0), .int x])).length) Slot.unset).toArray = ls at hl ⊢
  have hl : lv_has ls 2 [(0, .ref (mm 0)), (1, .int x)] := hl
  refine lv_aload_n hx hb dX8_isSound_0 rfl (lv_at hl 0 rfl) ?_
  refine va_get (D := D) (ci := 7) (v := .ref (mm 1)) (C := RX8) (T := TX8) (N := 33) hx hb hts inlX8 hown hK hP 0 rfl rfl 1 (by decide) (hts _ mwm_91) (fun _ h9 => h9) rfl dX8_isSound_1 ?_
  refine lv_bipush (v := 49) hx hb dX8_isSound_4 (by decide) ?_
  refine lv_iload_n hx hb dX8_isSound_6 rfl (lv_at hl 1 rfl) ?_
  refine lv_iadd hx hb dX8_isSound_7 ?_
  refine lv_topi (fun z_1 ez_1 => ?_)
  have tz_1 : z_1.toInt = 49 + x.toInt := by rw [ez_1]; exact ti_addcl (by decide) (by omega) (by omega)
  refine va_iald hx hb hK hP 1 0 rfl rfl (vp_in_o (by omega) (by omega)) dX8_isSound_8 ?_
  refine lv_topi (fun z_2 ez_2 => ?_)
  have cz_2 : cv (z_1.toInt.toNat - 0) z_2 := by rw [ez_2, ti_cl]; exact AI_at w_hf (by omega) (by omega)
  refine lv_aload_n hx hb dX8_isSound_9 rfl (lv_at hl 0 rfl) ?_
  refine va_get (D := D) (ci := 7) (v := .ref (mm 1)) (C := RX8) (T := TX8) (N := 33) hx hb hts inlX8 hown hK hP 0 rfl rfl 1 (by decide) (hts _ mwm_91) (fun _ h9 => h9) rfl dX8_isSound_10 ?_
  refine lv_iconst (v := 3) hx hb dX8_isSound_13 (by decide) ?_
  refine lv_aload_n hx hb dX8_isSound_14 rfl (lv_at hl 0 rfl) ?_
  refine va_get (D := D) (ci := 7) (v := .ref (mm 1)) (C := RX8) (T := TX8) (N := 33) hx hb hts inlX8 hown hK hP 0 rfl rfl 1 (by decide) (hts _ mwm_91) (fun _ h9 => h9) rfl dX8_isSound_15 ?_
  refine lv_bipush (v := 109) hx hb dX8_isSound_18 (by decide) ?_
  refine lv_iload_n hx hb dX8_isSound_20 rfl (lv_at hl 1 rfl) ?_
  refine lv_iadd hx hb dX8_isSound_21 ?_
  refine lv_topi (fun z_3 ez_3 => ?_)
  have tz_3 : z_3.toInt = 109 + x.toInt := by rw [ez_3]; exact ti_addcl (by decide) (by omega) (by omega)
  refine va_iald hx hb hK hP 1 0 rfl rfl (vp_in_o (by omega) (by omega)) dX8_isSound_22 ?_
  refine lv_topi (fun z_4 ez_4 => ?_)
  have cz_4 : cv (z_3.toInt.toNat - 0) z_4 := by rw [ez_4, ti_cl]; exact AI_at w_hf (by omega) (by omega)
  have bz_4 : 0 ≤ z_4.toInt ∧ z_4.toInt ≤ 1 := cz_4.2.2.2 (by omega) (by omega)
  refine lv_iadd hx hb dX8_isSound_23 ?_
  refine lv_topi (fun z_5 ez_5 => ?_)
  have tz_5 : z_5.toInt = 3 + z_4.toInt := by rw [ez_5]; exact ti_addcl (by decide) (by omega) (by omega)
  refine va_iald hx hb hK hP 1 0 rfl rfl (vp_in_o (by omega) (by omega)) dX8_isSound_24 ?_
  refine lv_topi (fun z_6 ez_6 => ?_)
  have cz_6 : cv (z_5.toInt.toNat - 0) z_6 := by rw [ez_6, ti_cl]; exact AI_at w_hf (by omega) (by omega)
  refine lv_icmp_gt (tgt := 32) hx hb dX8_isSound_25 (by decide) (fun c_7 => ?_) (fun c_7 => ?_)
  · have c_7 : z_6.toInt < z_2.toInt := ti_lt c_7
    refine lv_iconst (v := 0) hx hb dX8_isSound_32 (by decide) ?_
    exact W.zret (v := 0) hx hb hr rfl (fun t ht hW => ⟨0, rfl, ⟨by decide, by decide⟩, ht⟩) (fun q h => by cases h) dX8_isSound_33
  · have c_7 : z_2.toInt ≤ z_6.toInt := ti_nlt c_7
    refine lv_iconst (v := 1) hx hb dX8_isSound_28 (by decide) ?_
    refine lv_goto (tgt := 33) hx hb dX8_isSound_29 (by decide) ?_
    exact W.zret (v := 1) hx hb hr rfl (fun t ht hW => ⟨1, rfl, ⟨by decide, by decide⟩, ht⟩) (fun q h => by cases h) dX8_isSound_33
set_option maxHeartbeats 4000000 in
set_option maxRecDepth 100000 in
theorem s_M_soundIn (l : Launch) (D : va_G) (k : Nat → ClassId) (mm : Nat → Nat) (mf : Nat → Int32) (f : Nat → Int32) (r : Int32) (w_hf : AI f 0) (w_hr : 0 ≤ r.toInt ∧ r.toInt ≤ 9) : Met l yX8_soundIn (Cond.code yX8_soundIn cX8_soundIn 4 (some .int) :: wsL_law) ({ frames := 1, cells := 0, slots := 0, locals := 60 } : Room) (va_Pc [.ref (mm 0), .int r] (pr D k [((mm 0), .inr (7, [.int (mf 0), .ref (mm 1), .ref (mm 2), .ref (mm 3), .ref (mm 4), .ref (mm 5), .int (mf 6), .int (mf 7), .int (mf 8), .int (mf 9), .int (mf 10), .int (mf 11), .int (mf 12), .int (mf 13), .int (mf 14), .int (mf 15), .int (mf 16), .ref (mm 6), .int (mf 18), .ref (mm 7), .ref (mm 8), .ref (mm 9), .int (mf 22), .ref (mm 10), .ref (mm 11), .int (mf 25), .int (mf 26), .ref (mm 12), .ref (mm 13), .int (mf 29), .ref (mm 14), .ref (mm 15), .ref (mm 16)])), ((mm 1), .inl (k 0, 1227, .inl f))])) (vp_Si (fun rr => True)) 0 0 (fun _ => False) := by
  refine Met.ofW (cc := cX8_soundIn) (maxL := 4) (ret := (some .int)) (by decide) rfl ?_
  intro p e s m args below meth c s₁ B hml hv
  obtain ⟨rfl, hP, hK, hN0⟩ := hv
  have hx := B.exec
  have hb := B.bytes
  have hr := B.returns
  have hts : ∀ w ∈ wsL_law, w.before _ s = true := fun w h => atoms_spec (ws := Cond.code yX8_soundIn cX8_soundIn 4 (some .int) :: wsL_law) B.pre w (List.mem_cons_of_mem _ h)
  have hown : s.vm.findClass RX8 = some m.cls := findClass_of_methodNamed B.named
  have hlocks := B.notSynchronized
  have hP : va_P D vwCl [((mm 0), .inr (7, [.int (mf 0), .ref (mm 1), .ref (mm 2), .ref (mm 3), .ref (mm 4), .ref (mm 5), .int (mf 6), .int (mf 7), .int (mf 8), .int (mf 9), .int (mf 10), .int (mf 11), .int (mf 12), .int (mf 13), .int (mf 14), .int (mf 15), .int (mf 16), .ref (mm 6), .int (mf 18), .ref (mm 7), .ref (mm 8), .ref (mm 9), .int (mf 22), .ref (mm 10), .ref (mm 11), .int (mf 25), .int (mf 26), .ref (mm 12), .ref (mm 13), .int (mf 29), .ref (mm 14), .ref (mm 15), .ref (mm 16)])), ((mm 1), .inl (k 0, 1227, .inl f))] s.heap := hP
  have hl := lv_entry ([.ref (mm 0), .int r]) (n := 4) (Nat.le_of_ble_eq_true rfl)
  rw [lg_entry_eq]
  generalize (lg_sl ([.ref (mm 0), .int r]) ++ List.replicate (4 - (lg_sl ([.ref (mm 0), .int r])).length) Slot.unset).toArray = ls at hl ⊢
  have hl : lv_has ls 4 [(0, .ref (mm 0)), (1, .int r)] := hl
  refine lv_iconst (v := 0) hx hb dX8_soundIn_0 (by decide) ?_
  refine lv_istore_n (lv' := [(2, .int 0), (0, .ref (mm 0)), (1, .int r)]) hx hb dX8_soundIn_1 rfl hl (by decide) rfl (fun ls hl => ?_)
  refine lv_iconst (v := 0) hx hb dX8_soundIn_2 (by decide) ?_
  refine lv_istore_n (lv' := [(3, .int 0), (2, .int 0), (0, .ref (mm 0)), (1, .int r)]) hx hb dX8_soundIn_3 rfl hl (by decide) rfl (fun ls hl => ?_)
  refine W_loop (σ := Int32 × Int32) (fun xx H locs ls => (0 ≤ xx.1.toInt ∧ xx.1.toInt ≤ 6) ∧ va_P D vwCl [((mm 0), .inr (7, [.int (mf 0), .ref (mm 1), .ref (mm 2), .ref (mm 3), .ref (mm 4), .ref (mm 5), .int (mf 6), .int (mf 7), .int (mf 8), .int (mf 9), .int (mf 10), .int (mf 11), .int (mf 12), .int (mf 13), .int (mf 14), .int (mf 15), .int (mf 16), .ref (mm 6), .int (mf 18), .ref (mm 7), .ref (mm 8), .ref (mm 9), .int (mf 22), .ref (mm 10), .ref (mm 11), .int (mf 25), .int (mf 26), .ref (mm 12), .ref (mm 13), .int (mf 29), .ref (mm 14), .ref (mm 15), .ref (mm 16)])), ((mm 1), .inl (k 0, 1227, .inl f))] H ∧ H = s.heap ∧ locs = [] ∧ lv_has ls 4 [(3, .int xx.1), (2, .int xx.2), (0, .ref (mm 0)), (1, .int r)]) (fun xx => (6 - xx.1.toInt).toNat) ?_ (0, 0) _ _ ls ⟨(show 0 ≤ (0 : Int32).toInt ∧ (0 : Int32).toInt ≤ 6 from ⟨by decide, by decide⟩), hP.sub [0, 1] rfl, rfl, rfl, lv_sub hl [0, 1, 2, 3] rfl⟩
  intro xx H locs ls hI ih4
  obtain ⟨i_1, y_2⟩ := xx
  obtain ⟨h_3, hP, rfl, rfl, hl⟩ := hI
  have h_3 : 0 ≤ i_1.toInt ∧ i_1.toInt ≤ 6 := h_3
  obtain ⟨h_3a, h_3b⟩ := h_3
  have hP : va_P D vwCl [((mm 0), .inr (7, [.int (mf 0), .ref (mm 1), .ref (mm 2), .ref (mm 3), .ref (mm 4), .ref (mm 5), .int (mf 6), .int (mf 7), .int (mf 8), .int (mf 9), .int (mf 10), .int (mf 11), .int (mf 12), .int (mf 13), .int (mf 14), .int (mf 15), .int (mf 16), .ref (mm 6), .int (mf 18), .ref (mm 7), .ref (mm 8), .ref (mm 9), .int (mf 22), .ref (mm 10), .ref (mm 11), .int (mf 25), .int (mf 26), .ref (mm 12), .ref (mm 13), .int (mf 29), .ref (mm 14), .ref (mm 15), .ref (mm 16)])), ((mm 1), .inl (k 0, 1227, .inl f))] s.heap := hP
  have hl : lv_has ls 4 [(3, .int i_1), (2, .int y_2), (0, .ref (mm 0)), (1, .int r)] := hl
  refine lv_iload_n hx hb dX8_soundIn_4 rfl (lv_at hl 0 rfl) ?_
  refine lv_aload_n hx hb dX8_soundIn_5 rfl (lv_at hl 2 rfl) ?_
  refine va_get (D := D) (ci := 7) (v := .ref (mm 1)) (C := RX8) (T := TX8) (N := 33) hx hb hts inlX8 hown hK hP 0 rfl rfl 1 (by decide) (hts _ mwm_91) (fun _ h9 => h9) rfl dX8_soundIn_6 ?_
  refine lv_bipush (v := 39) hx hb dX8_soundIn_9 (by decide) ?_
  refine lv_iload_n hx hb dX8_soundIn_11 rfl (lv_at hl 3 rfl) ?_
  refine lv_iadd hx hb dX8_soundIn_12 ?_
  refine lv_topi (fun z_4 ez_4 => ?_)
  have tz_4 : z_4.toInt = 39 + r.toInt := by rw [ez_4]; exact ti_addcl (by decide) (by omega) (by omega)
  refine va_iald hx hb hK hP 1 0 rfl rfl (vp_in_o (by omega) (by omega)) dX8_soundIn_13 ?_
  refine lv_topi (fun z_5 ez_5 => ?_)
  have cz_5 : cv (z_4.toInt.toNat - 0) z_5 := by rw [ez_5, ti_cl]; exact AI_at w_hf (by omega) (by omega)
  have bz_5 : 0 ≤ z_5.toInt ∧ z_5.toInt ≤ 6 := cz_5.2.2.1 (by omega) (by omega)
  refine lv_icmp_ge (tgt := 44) hx hb dX8_soundIn_14 (by decide) (fun c_6 => ?_) (fun c_6 => ?_)
  · have c_6 : z_5.toInt ≤ i_1.toInt := ti_le c_6
    refine lv_iload_n hx hb dX8_soundIn_44 rfl (lv_at hl 1 rfl) ?_
    exact W.iret (v := y_2) hx hb hr (fun t ht hW => ⟨y_2, rfl, trivial, ht⟩) (fun q h => by cases h) dX8_soundIn_45
  · have c_6 : i_1.toInt < z_5.toInt := ti_nle c_6
    refine lv_iload_n hx hb dX8_soundIn_17 rfl (lv_at hl 1 rfl) ?_
    refine lv_aload_n hx hb dX8_soundIn_18 rfl (lv_at hl 2 rfl) ?_
    refine lv_bipush (v := 6) hx hb dX8_soundIn_19 (by decide) ?_
    refine lv_iload_n hx hb dX8_soundIn_21 rfl (lv_at hl 3 rfl) ?_
    refine lv_imul hx hb dX8_soundIn_22 ?_
    refine lv_topi (fun z_7 ez_7 => ?_)
    have tz_7 : z_7.toInt = 6 * r.toInt := by rw [ez_7]; exact ti_mulcl (by decide) (by omega) (by omega)
    refine lv_iload_n hx hb dX8_soundIn_23 rfl (lv_at hl 0 rfl) ?_
    refine lv_iadd hx hb dX8_soundIn_24 ?_
    refine lv_topi (fun z_8 ez_8 => ?_)
    have tz_8 : z_8.toInt = z_7.toInt + i_1.toInt := by rw [ez_8]; exact ti_add (by omega) (by omega)
    refine kV_i (q0 := 0) (As := [.int z_8]) (rest := [.int y_2]) ⟨hx, hb, hml, hown, hts⟩ (s_M_isSound l D k _ mf f z_8 w_hf (show 0 ≤ z_8.toInt ∧ z_8.toInt ≤ 59 from ⟨by omega, by omega⟩)) (gV mwm_429 mwm_430 mwm_431 mwm_5 mwm_432) hdm_yX8_isSound rfl rfl ⟨Nat.le_of_ble_eq_true rfl, Nat.le_of_ble_eq_true rfl⟩ hK hN0 (hP.sub [0, 1] rfl) rfl rfl rfl rfl hl.1 rfl (Nat.le_of_ble_eq_true rfl) dX8_soundIn_25 ⟨Nat.le_of_ble_eq_true rfl, Nat.le_of_ble_eq_true rfl⟩ (fun r_9 hr_9 => ?_)
    have hr_9 : 0 ≤ r_9.toInt ∧ r_9.toInt ≤ 1 := hr_9
    refine lv_if_eq (tgt := 35) hx hb dX8_soundIn_28 (by decide) (fun c_10 => ?_) (fun c_10 => ?_)
    · have c_10 : r_9.toInt = 0 := ti_eq c_10
      have qc_10 : r_9 = 0 := ti_of (show r_9.toInt = 0 from by omega)
      refine lv_iconst (v := 0) hx hb dX8_soundIn_35 (by decide) ?_
      refine lv_iadd hx hb dX8_soundIn_36 ?_
      refine lv_ni (v := y_2) (iadd_0 _) ?_
      refine lv_istore_n (lv' := [(2, .int y_2), (3, .int i_1), (0, .ref (mm 0)), (1, .int r)]) hx hb dX8_soundIn_37 rfl hl (by decide) rfl (fun ls hl => ?_)
      obtain ⟨z_11, ez_11⟩ : ∃ y : Int32, y = i_1 + 1 := ⟨_, rfl⟩
      have tz_11 : z_11.toInt = i_1.toInt + 1 := by rw [ez_11]; exact ti_addc (by decide) (by omega) (by omega)
      refine lv_iinc (v := z_11) (lv' := [(3, .int z_11), (2, .int y_2), (0, .ref (mm 0)), (1, .int r)]) hx hb dX8_soundIn_38 hl (k := 1) rfl (ez_11.symm) (by decide) rfl (fun ls hl => ?_)
      refine lv_goto (tgt := 4) hx hb dX8_soundIn_41 (by decide) ?_
      exact ih4 (z_11, y_2) _ _ ls (by show (6 - z_11.toInt).toNat < (6 - i_1.toInt).toNat; omega) ⟨(show 0 ≤ z_11.toInt ∧ z_11.toInt ≤ 6 from ⟨by omega, by omega⟩), hP.sub [0, 1] rfl, rfl, rfl, lv_sub hl [0, 1, 2, 3] rfl⟩
    · have c_10 : r_9.toInt ≠ 0 := ti_ne c_10
      have qc_10 : r_9 = 1 := ti_of (show r_9.toInt = 1 from by omega)
      refine lv_iconst (v := 1) hx hb dX8_soundIn_31 (by decide) ?_
      refine lv_goto (tgt := 36) hx hb dX8_soundIn_32 (by decide) ?_
      refine lv_iadd hx hb dX8_soundIn_36 ?_
      refine lv_topi (fun z_12 ez_12 => ?_)
      refine lv_istore_n (lv' := [(2, .int z_12), (3, .int i_1), (0, .ref (mm 0)), (1, .int r)]) hx hb dX8_soundIn_37 rfl hl (by decide) rfl (fun ls hl => ?_)
      obtain ⟨z_13, ez_13⟩ : ∃ y : Int32, y = i_1 + 1 := ⟨_, rfl⟩
      have tz_13 : z_13.toInt = i_1.toInt + 1 := by rw [ez_13]; exact ti_addc (by decide) (by omega) (by omega)
      refine lv_iinc (v := z_13) (lv' := [(3, .int z_13), (2, .int z_12), (0, .ref (mm 0)), (1, .int r)]) hx hb dX8_soundIn_38 hl (k := 1) rfl (ez_13.symm) (by decide) rfl (fun ls hl => ?_)
      refine lv_goto (tgt := 4) hx hb dX8_soundIn_41 (by decide) ?_
      exact ih4 (z_13, z_12) _ _ ls (by show (6 - z_13.toInt).toNat < (6 - i_1.toInt).toNat; omega) ⟨(show 0 ≤ z_13.toInt ∧ z_13.toInt ≤ 6 from ⟨by omega, by omega⟩), hP.sub [0, 1] rfl, rfl, rfl, lv_sub hl [0, 1, 2, 3] rfl⟩
set_option maxHeartbeats 4000000 in
set_option maxRecDepth 100000 in
theorem s_M_drips (l : Launch) (D : va_G) (k : Nat → ClassId) (mm : Nat → Nat) (mf : Nat → Int32) (f : Nat → Int32) (r : Int32) (w_hf : AI f 0) (w_hr : 0 ≤ r.toInt ∧ r.toInt ≤ 9) : Met l yX8_drips (Cond.code yX8_drips cX8_drips 2 (some .boolean) :: wsL_law) ({ frames := 2, cells := 0, slots := 0, locals := 120 } : Room) (va_Pc [.ref (mm 0), .int r] (pr D k [((mm 0), .inr (7, [.int (mf 0), .ref (mm 1), .ref (mm 2), .ref (mm 3), .ref (mm 4), .ref (mm 5), .int (mf 6), .int (mf 7), .int (mf 8), .int (mf 9), .int (mf 10), .int (mf 11), .int (mf 12), .int (mf 13), .int (mf 14), .int (mf 15), .int (mf 16), .ref (mm 6), .int (mf 18), .ref (mm 7), .ref (mm 8), .ref (mm 9), .int (mf 22), .ref (mm 10), .ref (mm 11), .int (mf 25), .int (mf 26), .ref (mm 12), .ref (mm 13), .int (mf 29), .ref (mm 14), .ref (mm 15), .ref (mm 16)])), ((mm 1), .inl (k 0, 1227, .inl f))])) (vp_Si (fun rr => 0 ≤ rr.toInt ∧ rr.toInt ≤ 1)) 0 0 (fun _ => False) := by
  refine Met.ofW (cc := cX8_drips) (maxL := 2) (ret := (some .boolean)) (by decide) rfl ?_
  intro p e s m args below meth c s₁ B hml hv
  obtain ⟨rfl, hP, hK, hN0⟩ := hv
  have hx := B.exec
  have hb := B.bytes
  have hr := B.returns
  have hts : ∀ w ∈ wsL_law, w.before _ s = true := fun w h => atoms_spec (ws := Cond.code yX8_drips cX8_drips 2 (some .boolean) :: wsL_law) B.pre w (List.mem_cons_of_mem _ h)
  have hown : s.vm.findClass RX8 = some m.cls := findClass_of_methodNamed B.named
  have hlocks := B.notSynchronized
  have hP : va_P D vwCl [((mm 0), .inr (7, [.int (mf 0), .ref (mm 1), .ref (mm 2), .ref (mm 3), .ref (mm 4), .ref (mm 5), .int (mf 6), .int (mf 7), .int (mf 8), .int (mf 9), .int (mf 10), .int (mf 11), .int (mf 12), .int (mf 13), .int (mf 14), .int (mf 15), .int (mf 16), .ref (mm 6), .int (mf 18), .ref (mm 7), .ref (mm 8), .ref (mm 9), .int (mf 22), .ref (mm 10), .ref (mm 11), .int (mf 25), .int (mf 26), .ref (mm 12), .ref (mm 13), .int (mf 29), .ref (mm 14), .ref (mm 15), .ref (mm 16)])), ((mm 1), .inl (k 0, 1227, .inl f))] s.heap := hP
  have hl := lv_entry ([.ref (mm 0), .int r]) (n := 2) (Nat.le_of_ble_eq_true rfl)
  rw [lg_entry_eq]
  generalize (lg_sl ([.ref (mm 0), .int r]) ++ List.replicate (2 - (lg_sl ([.ref (mm 0), .int r])).length) Slot.unset).toArray = ls at hl ⊢
  have hl : lv_has ls 2 [(0, .ref (mm 0)), (1, .int r)] := hl
  refine lv_aload_n hx hb dX8_drips_0 rfl (lv_at hl 0 rfl) ?_
  refine lv_iload_n hx hb dX8_drips_1 rfl (lv_at hl 1 rfl) ?_
  refine kV_i (q0 := 0) (As := [.int r]) (rest := []) ⟨hx, hb, hml, hown, hts⟩ (s_M_isSlate l D k _ mf f r w_hf (show 0 ≤ r.toInt ∧ r.toInt ≤ 9 from ⟨by omega, by omega⟩)) (gV mwm_421 mwm_422 mwm_423 mwm_5 mwm_424) hdm_yX8_isSlate rfl rfl ⟨Nat.le_of_ble_eq_true rfl, Nat.le_of_ble_eq_true rfl⟩ hK hN0 (hP.sub [0, 1] rfl) rfl rfl rfl rfl hl.1 rfl (Nat.le_of_ble_eq_true rfl) dX8_drips_2 ⟨Nat.le_of_ble_eq_true rfl, Nat.le_of_ble_eq_true rfl⟩ (fun r_1 hr_1 => ?_)
  have hr_1 : 0 ≤ r_1.toInt ∧ r_1.toInt ≤ 1 := hr_1
  refine lv_if_ne (tgt := 20) hx hb dX8_drips_5 (by decide) (fun c_2 => ?_) (fun c_2 => ?_)
  · have c_2 : r_1.toInt ≠ 0 := ti_ne c_2
    have qc_2 : r_1 = 1 := ti_of (show r_1.toInt = 1 from by omega)
    refine lv_iconst (v := 0) hx hb dX8_drips_20 (by decide) ?_
    exact W.zret (v := 0) hx hb hr rfl (fun t ht hW => ⟨0, rfl, ⟨by decide, by decide⟩, ht⟩) (fun q h => by cases h) dX8_drips_21
  · have c_2 : r_1.toInt = 0 := ti_eq c_2
    have qc_2 : r_1 = 0 := ti_of (show r_1.toInt = 0 from by omega)
    refine lv_aload_n hx hb dX8_drips_8 rfl (lv_at hl 0 rfl) ?_
    refine lv_iload_n hx hb dX8_drips_9 rfl (lv_at hl 1 rfl) ?_
    refine kV_i (q0 := 0) (As := [.int r]) (rest := []) ⟨hx, hb, hml, hown, hts⟩ (s_M_soundIn l D k _ mf f r w_hf (show 0 ≤ r.toInt ∧ r.toInt ≤ 9 from ⟨by omega, by omega⟩)) (gV mwm_425 mwm_426 mwm_427 mwm_5 mwm_428) hdm_yX8_soundIn rfl rfl ⟨Nat.le_of_ble_eq_true rfl, Nat.le_of_ble_eq_true rfl⟩ hK hN0 (hP.sub [0, 1] rfl) rfl rfl rfl rfl hl.1 rfl (Nat.le_of_ble_eq_true rfl) dX8_drips_10 ⟨Nat.le_of_ble_eq_true rfl, Nat.le_of_ble_eq_true rfl⟩ (fun r_3 hr_3 => ?_)
    refine lv_if_ne (tgt := 20) hx hb dX8_drips_13 (by decide) (fun c_4 => ?_) (fun c_4 => ?_)
    · have c_4 : r_3.toInt ≠ 0 := ti_ne c_4
      refine lv_iconst (v := 0) hx hb dX8_drips_20 (by decide) ?_
      exact W.zret (v := 0) hx hb hr rfl (fun t ht hW => ⟨0, rfl, ⟨by decide, by decide⟩, ht⟩) (fun q h => by cases h) dX8_drips_21
    · have c_4 : r_3.toInt = 0 := ti_eq c_4
      have qc_4 : r_3 = 0 := ti_of (show r_3.toInt = 0 from by omega)
      refine lv_iconst (v := 1) hx hb dX8_drips_16 (by decide) ?_
      refine lv_goto (tgt := 21) hx hb dX8_drips_17 (by decide) ?_
      exact W.zret (v := 1) hx hb hr rfl (fun t ht hW => ⟨1, rfl, ⟨by decide, by decide⟩, ht⟩) (fun q h => by cases h) dX8_drips_21
set_option maxHeartbeats 4000000 in
set_option maxRecDepth 100000 in
theorem s_M_dripping (l : Launch) (D : va_G) (k : Nat → ClassId) (mm : Nat → Nat) (mf : Nat → Int32) (f : Nat → Int32) (w_hf : AI f 0) : Met l yX8_dripping (Cond.code yX8_dripping cX8_dripping 3 (some .int) :: wsL_law) ({ frames := 3, cells := 0, slots := 0, locals := 180 } : Room) (va_Pc [.ref (mm 0)] (pr D k [((mm 0), .inr (7, [.int (mf 0), .ref (mm 1), .ref (mm 2), .ref (mm 3), .ref (mm 4), .ref (mm 5), .int (mf 6), .int (mf 7), .int (mf 8), .int (mf 9), .int (mf 10), .int (mf 11), .int (mf 12), .int (mf 13), .int (mf 14), .int (mf 15), .int (mf 16), .ref (mm 6), .int (mf 18), .ref (mm 7), .ref (mm 8), .ref (mm 9), .int (mf 22), .ref (mm 10), .ref (mm 11), .int (mf 25), .int (mf 26), .ref (mm 12), .ref (mm 13), .int (mf 29), .ref (mm 14), .ref (mm 15), .ref (mm 16)])), ((mm 1), .inl (k 0, 1227, .inl f))])) (vp_Si (fun rr => True)) 0 0 (fun _ => False) := by
  refine Met.ofW (cc := cX8_dripping) (maxL := 3) (ret := (some .int)) (by decide) rfl ?_
  intro p e s m args below meth c s₁ B hml hv
  obtain ⟨rfl, hP, hK, hN0⟩ := hv
  have hx := B.exec
  have hb := B.bytes
  have hr := B.returns
  have hts : ∀ w ∈ wsL_law, w.before _ s = true := fun w h => atoms_spec (ws := Cond.code yX8_dripping cX8_dripping 3 (some .int) :: wsL_law) B.pre w (List.mem_cons_of_mem _ h)
  have hown : s.vm.findClass RX8 = some m.cls := findClass_of_methodNamed B.named
  have hlocks := B.notSynchronized
  have hP : va_P D vwCl [((mm 0), .inr (7, [.int (mf 0), .ref (mm 1), .ref (mm 2), .ref (mm 3), .ref (mm 4), .ref (mm 5), .int (mf 6), .int (mf 7), .int (mf 8), .int (mf 9), .int (mf 10), .int (mf 11), .int (mf 12), .int (mf 13), .int (mf 14), .int (mf 15), .int (mf 16), .ref (mm 6), .int (mf 18), .ref (mm 7), .ref (mm 8), .ref (mm 9), .int (mf 22), .ref (mm 10), .ref (mm 11), .int (mf 25), .int (mf 26), .ref (mm 12), .ref (mm 13), .int (mf 29), .ref (mm 14), .ref (mm 15), .ref (mm 16)])), ((mm 1), .inl (k 0, 1227, .inl f))] s.heap := hP
  have hl := lv_entry ([.ref (mm 0)]) (n := 3) (Nat.le_of_ble_eq_true rfl)
  rw [lg_entry_eq]
  generalize (lg_sl ([.ref (mm 0)]) ++ List.replicate (3 - (lg_sl ([.ref (mm 0)])).length) Slot.unset).toArray = ls at hl ⊢
  have hl : lv_has ls 3 [(0, .ref (mm 0))] := hl
  refine lv_iconst (v := 0) hx hb dX8_dripping_0 (by decide) ?_
  refine lv_istore_n (lv' := [(1, .int 0), (0, .ref (mm 0))]) hx hb dX8_dripping_1 rfl hl (by decide) rfl (fun ls hl => ?_)
  refine lv_iconst (v := 0) hx hb dX8_dripping_2 (by decide) ?_
  refine lv_istore_n (lv' := [(2, .int 0), (1, .int 0), (0, .ref (mm 0))]) hx hb dX8_dripping_3 rfl hl (by decide) rfl (fun ls hl => ?_)
  refine W_loop (σ := Int32 × Int32) (fun xx H locs ls => (0 ≤ xx.1.toInt ∧ xx.1.toInt ≤ 10) ∧ va_P D vwCl [((mm 0), .inr (7, [.int (mf 0), .ref (mm 1), .ref (mm 2), .ref (mm 3), .ref (mm 4), .ref (mm 5), .int (mf 6), .int (mf 7), .int (mf 8), .int (mf 9), .int (mf 10), .int (mf 11), .int (mf 12), .int (mf 13), .int (mf 14), .int (mf 15), .int (mf 16), .ref (mm 6), .int (mf 18), .ref (mm 7), .ref (mm 8), .ref (mm 9), .int (mf 22), .ref (mm 10), .ref (mm 11), .int (mf 25), .int (mf 26), .ref (mm 12), .ref (mm 13), .int (mf 29), .ref (mm 14), .ref (mm 15), .ref (mm 16)])), ((mm 1), .inl (k 0, 1227, .inl f))] H ∧ H = s.heap ∧ locs = [] ∧ lv_has ls 3 [(2, .int xx.1), (1, .int xx.2), (0, .ref (mm 0))]) (fun xx => (10 - xx.1.toInt).toNat) ?_ (0, 0) _ _ ls ⟨(show 0 ≤ (0 : Int32).toInt ∧ (0 : Int32).toInt ≤ 10 from ⟨by decide, by decide⟩), hP.sub [0, 1] rfl, rfl, rfl, lv_sub hl [0, 1, 2] rfl⟩
  intro xx H locs ls hI ih4
  obtain ⟨i_1, y_2⟩ := xx
  obtain ⟨h_3, hP, rfl, rfl, hl⟩ := hI
  have h_3 : 0 ≤ i_1.toInt ∧ i_1.toInt ≤ 10 := h_3
  obtain ⟨h_3a, h_3b⟩ := h_3
  have hP : va_P D vwCl [((mm 0), .inr (7, [.int (mf 0), .ref (mm 1), .ref (mm 2), .ref (mm 3), .ref (mm 4), .ref (mm 5), .int (mf 6), .int (mf 7), .int (mf 8), .int (mf 9), .int (mf 10), .int (mf 11), .int (mf 12), .int (mf 13), .int (mf 14), .int (mf 15), .int (mf 16), .ref (mm 6), .int (mf 18), .ref (mm 7), .ref (mm 8), .ref (mm 9), .int (mf 22), .ref (mm 10), .ref (mm 11), .int (mf 25), .int (mf 26), .ref (mm 12), .ref (mm 13), .int (mf 29), .ref (mm 14), .ref (mm 15), .ref (mm 16)])), ((mm 1), .inl (k 0, 1227, .inl f))] s.heap := hP
  have hl : lv_has ls 3 [(2, .int i_1), (1, .int y_2), (0, .ref (mm 0))] := hl
  refine lv_iload_n hx hb dX8_dripping_4 rfl (lv_at hl 0 rfl) ?_
  refine lv_aload_n hx hb dX8_dripping_5 rfl (lv_at hl 2 rfl) ?_
  refine va_get (D := D) (ci := 7) (v := .ref (mm 1)) (C := RX8) (T := TX8) (N := 33) hx hb hts inlX8 hown hK hP 0 rfl rfl 1 (by decide) (hts _ mwm_91) (fun _ h9 => h9) rfl dX8_dripping_6 ?_
  refine lv_iconst (v := 0) hx hb dX8_dripping_9 (by decide) ?_
  refine va_iald hx hb hK hP 1 0 rfl rfl (vp_in_c (by decide)) dX8_dripping_10 ?_
  refine lv_topi (fun z_4 ez_4 => ?_)
  have cz_4 : cv 0 z_4 := by rw [ez_4]; exact AI_at (n := 0) w_hf (by decide) (by decide)
  have bz_4 : 0 ≤ z_4.toInt ∧ z_4.toInt ≤ 10 := cz_4.1 (by decide)
  refine lv_icmp_ge (tgt := 38) hx hb dX8_dripping_11 (by decide) (fun c_5 => ?_) (fun c_5 => ?_)
  · have c_5 : z_4.toInt ≤ i_1.toInt := ti_le c_5
    refine lv_iload_n hx hb dX8_dripping_38 rfl (lv_at hl 1 rfl) ?_
    exact W.iret (v := y_2) hx hb hr (fun t ht hW => ⟨y_2, rfl, trivial, ht⟩) (fun q h => by cases h) dX8_dripping_39
  · have c_5 : i_1.toInt < z_4.toInt := ti_nle c_5
    refine lv_iload_n hx hb dX8_dripping_14 rfl (lv_at hl 1 rfl) ?_
    refine lv_aload_n hx hb dX8_dripping_15 rfl (lv_at hl 2 rfl) ?_
    refine lv_iload_n hx hb dX8_dripping_16 rfl (lv_at hl 0 rfl) ?_
    refine kV_i (q0 := 0) (As := [.int i_1]) (rest := [.int y_2]) ⟨hx, hb, hml, hown, hts⟩ (s_M_drips l D k _ mf f i_1 w_hf (show 0 ≤ i_1.toInt ∧ i_1.toInt ≤ 9 from ⟨by omega, by omega⟩)) (gV mwm_417 mwm_418 mwm_419 mwm_5 mwm_420) hdm_yX8_drips rfl rfl ⟨Nat.le_of_ble_eq_true rfl, Nat.le_of_ble_eq_true rfl⟩ hK hN0 (hP.sub [0, 1] rfl) rfl rfl rfl rfl hl.1 rfl (Nat.le_of_ble_eq_true rfl) dX8_dripping_17 ⟨Nat.le_of_ble_eq_true rfl, Nat.le_of_ble_eq_true rfl⟩ (fun r_6 hr_6 => ?_)
    have hr_6 : 0 ≤ r_6.toInt ∧ r_6.toInt ≤ 1 := hr_6
    refine lv_if_eq (tgt := 29) hx hb dX8_dripping_20 (by decide) (fun c_7 => ?_) (fun c_7 => ?_)
    · have c_7 : r_6.toInt = 0 := ti_eq c_7
      have qc_7 : r_6 = 0 := ti_of (show r_6.toInt = 0 from by omega)
      refine lv_iconst (v := 0) hx hb dX8_dripping_29 (by decide) ?_
      refine lv_ior hx hb dX8_dripping_30 ?_
      refine lv_ni (v := y_2) (ior_0 _) ?_
      refine lv_istore_n (lv' := [(1, .int y_2), (2, .int i_1), (0, .ref (mm 0))]) hx hb dX8_dripping_31 rfl hl (by decide) rfl (fun ls hl => ?_)
      obtain ⟨z_8, ez_8⟩ : ∃ y : Int32, y = i_1 + 1 := ⟨_, rfl⟩
      have tz_8 : z_8.toInt = i_1.toInt + 1 := by rw [ez_8]; exact ti_addc (by decide) (by omega) (by omega)
      refine lv_iinc (v := z_8) (lv' := [(2, .int z_8), (1, .int y_2), (0, .ref (mm 0))]) hx hb dX8_dripping_32 hl (k := 1) rfl (ez_8.symm) (by decide) rfl (fun ls hl => ?_)
      refine lv_goto (tgt := 4) hx hb dX8_dripping_35 (by decide) ?_
      exact ih4 (z_8, y_2) _ _ ls (by show (10 - z_8.toInt).toNat < (10 - i_1.toInt).toNat; omega) ⟨(show 0 ≤ z_8.toInt ∧ z_8.toInt ≤ 10 from ⟨by omega, by omega⟩), hP.sub [0, 1] rfl, rfl, rfl, lv_sub hl [0, 1, 2] rfl⟩
    · have c_7 : r_6.toInt ≠ 0 := ti_ne c_7
      have qc_7 : r_6 = 1 := ti_of (show r_6.toInt = 1 from by omega)
      refine lv_iconst (v := 1) hx hb dX8_dripping_23 (by decide) ?_
      refine lv_iload_n hx hb dX8_dripping_24 rfl (lv_at hl 0 rfl) ?_
      refine lv_ishl hx hb dX8_dripping_25 ?_
      refine lv_topi (fun z_9 ez_9 => ?_)
      refine lv_goto (tgt := 30) hx hb dX8_dripping_26 (by decide) ?_
      refine lv_ior hx hb dX8_dripping_30 ?_
      refine lv_topi (fun z_10 ez_10 => ?_)
      refine lv_istore_n (lv' := [(1, .int z_10), (2, .int i_1), (0, .ref (mm 0))]) hx hb dX8_dripping_31 rfl hl (by decide) rfl (fun ls hl => ?_)
      obtain ⟨z_11, ez_11⟩ : ∃ y : Int32, y = i_1 + 1 := ⟨_, rfl⟩
      have tz_11 : z_11.toInt = i_1.toInt + 1 := by rw [ez_11]; exact ti_addc (by decide) (by omega) (by omega)
      refine lv_iinc (v := z_11) (lv' := [(2, .int z_11), (1, .int z_10), (0, .ref (mm 0))]) hx hb dX8_dripping_32 hl (k := 1) rfl (ez_11.symm) (by decide) rfl (fun ls hl => ?_)
      refine lv_goto (tgt := 4) hx hb dX8_dripping_35 (by decide) ?_
      exact ih4 (z_11, z_10) _ _ ls (by show (10 - z_11.toInt).toNat < (10 - i_1.toInt).toNat; omega) ⟨(show 0 ≤ z_11.toInt ∧ z_11.toInt ≤ 10 from ⟨by omega, by omega⟩), hP.sub [0, 1] rfl, rfl, rfl, lv_sub hl [0, 1, 2] rfl⟩
set_option maxHeartbeats 4000000 in
set_option maxRecDepth 100000 in
theorem s_M_sumIn (l : Launch) (D : va_G) (k : Nat → ClassId) (mm : Nat → Nat) (mf : Nat → Int32) (f : Nat → Int32) (r : Int32) (x : Int32) (w_hf : AI f 0) (w_hr : 0 ≤ r.toInt ∧ r.toInt ≤ 9) (w_hx : 49 ≤ x.toInt ∧ x.toInt ≤ 349) : Met l yX8_sumIn (Cond.code yX8_sumIn cX8_sumIn 5 (some .int) :: wsL_law) ({ frames := 0, cells := 0, slots := 0, locals := 0 } : Room) (va_Pc [.ref (mm 0), .int r, .int x] (pr D k [((mm 0), .inr (7, [.int (mf 0), .ref (mm 1), .ref (mm 2), .ref (mm 3), .ref (mm 4), .ref (mm 5), .int (mf 6), .int (mf 7), .int (mf 8), .int (mf 9), .int (mf 10), .int (mf 11), .int (mf 12), .int (mf 13), .int (mf 14), .int (mf 15), .int (mf 16), .ref (mm 6), .int (mf 18), .ref (mm 7), .ref (mm 8), .ref (mm 9), .int (mf 22), .ref (mm 10), .ref (mm 11), .int (mf 25), .int (mf 26), .ref (mm 12), .ref (mm 13), .int (mf 29), .ref (mm 14), .ref (mm 15), .ref (mm 16)])), ((mm 1), .inl (k 0, 1227, .inl f))])) (vp_Si (fun rr => True)) 0 0 (fun _ => False) := by
  refine Met.ofW (cc := cX8_sumIn) (maxL := 5) (ret := (some .int)) (by decide) rfl ?_
  intro p e s m args below meth c s₁ B hml hv
  obtain ⟨rfl, hP, hK, hN0⟩ := hv
  have hx := B.exec
  have hb := B.bytes
  have hr := B.returns
  have hts : ∀ w ∈ wsL_law, w.before _ s = true := fun w h => atoms_spec (ws := Cond.code yX8_sumIn cX8_sumIn 5 (some .int) :: wsL_law) B.pre w (List.mem_cons_of_mem _ h)
  have hown : s.vm.findClass RX8 = some m.cls := findClass_of_methodNamed B.named
  have hlocks := B.notSynchronized
  have hP : va_P D vwCl [((mm 0), .inr (7, [.int (mf 0), .ref (mm 1), .ref (mm 2), .ref (mm 3), .ref (mm 4), .ref (mm 5), .int (mf 6), .int (mf 7), .int (mf 8), .int (mf 9), .int (mf 10), .int (mf 11), .int (mf 12), .int (mf 13), .int (mf 14), .int (mf 15), .int (mf 16), .ref (mm 6), .int (mf 18), .ref (mm 7), .ref (mm 8), .ref (mm 9), .int (mf 22), .ref (mm 10), .ref (mm 11), .int (mf 25), .int (mf 26), .ref (mm 12), .ref (mm 13), .int (mf 29), .ref (mm 14), .ref (mm 15), .ref (mm 16)])), ((mm 1), .inl (k 0, 1227, .inl f))] s.heap := hP
  have hl := lv_entry ([.ref (mm 0), .int r, .int x]) (n := 5) (Nat.le_of_ble_eq_true rfl)
  rw [lg_entry_eq]
  generalize (lg_sl ([.ref (mm 0), .int r, .int x]) ++ List.replicate (5 - (lg_sl ([.ref (mm 0), .int r, .int x])).length) Slot.unset).toArray = ls at hl ⊢
  have hl : lv_has ls 5 [(0, .ref (mm 0)), (1, .int r), (2, .int x)] := hl
  refine lv_iconst (v := 0) hx hb dX8_sumIn_0 (by decide) ?_
  refine lv_istore_n (lv' := [(3, .int 0), (0, .ref (mm 0)), (1, .int r), (2, .int x)]) hx hb dX8_sumIn_1 rfl hl (by decide) rfl (fun ls hl => ?_)
  refine lv_iconst (v := 0) hx hb dX8_sumIn_2 (by decide) ?_
  refine lv_istore (lv' := [(4, .int 0), (3, .int 0), (0, .ref (mm 0)), (1, .int r), (2, .int x)]) hx hb dX8_sumIn_3 hl (by decide) rfl (fun ls hl => ?_)
  refine W_loop (σ := Int32 × Int32) (fun xx H locs ls => (0 ≤ xx.1.toInt ∧ xx.1.toInt ≤ 6) ∧ va_P D vwCl [((mm 0), .inr (7, [.int (mf 0), .ref (mm 1), .ref (mm 2), .ref (mm 3), .ref (mm 4), .ref (mm 5), .int (mf 6), .int (mf 7), .int (mf 8), .int (mf 9), .int (mf 10), .int (mf 11), .int (mf 12), .int (mf 13), .int (mf 14), .int (mf 15), .int (mf 16), .ref (mm 6), .int (mf 18), .ref (mm 7), .ref (mm 8), .ref (mm 9), .int (mf 22), .ref (mm 10), .ref (mm 11), .int (mf 25), .int (mf 26), .ref (mm 12), .ref (mm 13), .int (mf 29), .ref (mm 14), .ref (mm 15), .ref (mm 16)])), ((mm 1), .inl (k 0, 1227, .inl f))] H ∧ H = s.heap ∧ locs = [] ∧ lv_has ls 5 [(4, .int xx.1), (3, .int xx.2), (0, .ref (mm 0)), (1, .int r), (2, .int x)]) (fun xx => (6 - xx.1.toInt).toNat) ?_ (0, 0) _ _ ls ⟨(show 0 ≤ (0 : Int32).toInt ∧ (0 : Int32).toInt ≤ 6 from ⟨by decide, by decide⟩), hP.sub [0, 1] rfl, rfl, rfl, lv_sub hl [0, 1, 2, 3, 4] rfl⟩
  intro xx H locs ls hI ih5
  obtain ⟨i_1, y_2⟩ := xx
  obtain ⟨h_3, hP, rfl, rfl, hl⟩ := hI
  have h_3 : 0 ≤ i_1.toInt ∧ i_1.toInt ≤ 6 := h_3
  obtain ⟨h_3a, h_3b⟩ := h_3
  have hP : va_P D vwCl [((mm 0), .inr (7, [.int (mf 0), .ref (mm 1), .ref (mm 2), .ref (mm 3), .ref (mm 4), .ref (mm 5), .int (mf 6), .int (mf 7), .int (mf 8), .int (mf 9), .int (mf 10), .int (mf 11), .int (mf 12), .int (mf 13), .int (mf 14), .int (mf 15), .int (mf 16), .ref (mm 6), .int (mf 18), .ref (mm 7), .ref (mm 8), .ref (mm 9), .int (mf 22), .ref (mm 10), .ref (mm 11), .int (mf 25), .int (mf 26), .ref (mm 12), .ref (mm 13), .int (mf 29), .ref (mm 14), .ref (mm 15), .ref (mm 16)])), ((mm 1), .inl (k 0, 1227, .inl f))] s.heap := hP
  have hl : lv_has ls 5 [(4, .int i_1), (3, .int y_2), (0, .ref (mm 0)), (1, .int r), (2, .int x)] := hl
  refine lv_iload hx hb dX8_sumIn_5 (lv_at hl 0 rfl) ?_
  refine lv_aload_n hx hb dX8_sumIn_7 rfl (lv_at hl 2 rfl) ?_
  refine va_get (D := D) (ci := 7) (v := .ref (mm 1)) (C := RX8) (T := TX8) (N := 33) hx hb hts inlX8 hown hK hP 0 rfl rfl 1 (by decide) (hts _ mwm_91) (fun _ h9 => h9) rfl dX8_sumIn_8 ?_
  refine lv_bipush (v := 39) hx hb dX8_sumIn_11 (by decide) ?_
  refine lv_iload_n hx hb dX8_sumIn_13 rfl (lv_at hl 3 rfl) ?_
  refine lv_iadd hx hb dX8_sumIn_14 ?_
  refine lv_topi (fun z_4 ez_4 => ?_)
  have tz_4 : z_4.toInt = 39 + r.toInt := by rw [ez_4]; exact ti_addcl (by decide) (by omega) (by omega)
  refine va_iald hx hb hK hP 1 0 rfl rfl (vp_in_o (by omega) (by omega)) dX8_sumIn_15 ?_
  refine lv_topi (fun z_5 ez_5 => ?_)
  have cz_5 : cv (z_4.toInt.toNat - 0) z_5 := by rw [ez_5, ti_cl]; exact AI_at w_hf (by omega) (by omega)
  have bz_5 : 0 ≤ z_5.toInt ∧ z_5.toInt ≤ 6 := cz_5.2.2.1 (by omega) (by omega)
  refine lv_icmp_ge (tgt := 42) hx hb dX8_sumIn_16 (by decide) (fun c_6 => ?_) (fun c_6 => ?_)
  · have c_6 : z_5.toInt ≤ i_1.toInt := ti_le c_6
    refine lv_iload_n hx hb dX8_sumIn_42 rfl (lv_at hl 1 rfl) ?_
    exact W.iret (v := y_2) hx hb hr (fun t ht hW => ⟨y_2, rfl, trivial, ht⟩) (fun q h => by cases h) dX8_sumIn_43
  · have c_6 : i_1.toInt < z_5.toInt := ti_nle c_6
    refine lv_iload_n hx hb dX8_sumIn_19 rfl (lv_at hl 1 rfl) ?_
    refine lv_aload_n hx hb dX8_sumIn_20 rfl (lv_at hl 2 rfl) ?_
    refine va_get (D := D) (ci := 7) (v := .ref (mm 1)) (C := RX8) (T := TX8) (N := 33) hx hb hts inlX8 hown hK hP 0 rfl rfl 1 (by decide) (hts _ mwm_91) (fun _ h9 => h9) rfl dX8_sumIn_21 ?_
    refine lv_iload_n hx hb dX8_sumIn_24 rfl (lv_at hl 4 rfl) ?_
    refine lv_bipush (v := 6) hx hb dX8_sumIn_25 (by decide) ?_
    refine lv_iload_n hx hb dX8_sumIn_27 rfl (lv_at hl 3 rfl) ?_
    refine lv_imul hx hb dX8_sumIn_28 ?_
    refine lv_topi (fun z_7 ez_7 => ?_)
    have tz_7 : z_7.toInt = 6 * r.toInt := by rw [ez_7]; exact ti_mulcl (by decide) (by omega) (by omega)
    refine lv_iadd hx hb dX8_sumIn_29 ?_
    refine lv_topi (fun z_8 ez_8 => ?_)
    have tz_8 : z_8.toInt = x.toInt + z_7.toInt := by rw [ez_8]; exact ti_add (by omega) (by omega)
    refine lv_iload hx hb dX8_sumIn_30 (lv_at hl 0 rfl) ?_
    refine lv_iadd hx hb dX8_sumIn_32 ?_
    refine lv_topi (fun z_9 ez_9 => ?_)
    have tz_9 : z_9.toInt = z_8.toInt + i_1.toInt := by rw [ez_9]; exact ti_add (by omega) (by omega)
    refine va_iald hx hb hK hP 1 0 rfl rfl (vp_in_o (by omega) (by omega)) dX8_sumIn_33 ?_
    refine lv_topi (fun z_10 ez_10 => ?_)
    have cz_10 : cv (z_9.toInt.toNat - 0) z_10 := by rw [ez_10, ti_cl]; exact AI_at w_hf (by omega) (by omega)
    refine lv_iadd hx hb dX8_sumIn_34 ?_
    refine lv_topi (fun z_11 ez_11 => ?_)
    refine lv_istore_n (lv' := [(3, .int z_11), (4, .int i_1), (0, .ref (mm 0)), (1, .int r), (2, .int x)]) hx hb dX8_sumIn_35 rfl hl (by decide) rfl (fun ls hl => ?_)
    obtain ⟨z_12, ez_12⟩ : ∃ y : Int32, y = i_1 + 1 := ⟨_, rfl⟩
    have tz_12 : z_12.toInt = i_1.toInt + 1 := by rw [ez_12]; exact ti_addc (by decide) (by omega) (by omega)
    refine lv_iinc (v := z_12) (lv' := [(4, .int z_12), (3, .int z_11), (0, .ref (mm 0)), (1, .int r), (2, .int x)]) hx hb dX8_sumIn_36 hl (k := 1) rfl (ez_12.symm) (by decide) rfl (fun ls hl => ?_)
    refine lv_goto (tgt := 5) hx hb dX8_sumIn_39 (by decide) ?_
    exact ih5 (z_12, z_11) _ _ ls (by show (6 - z_12.toInt).toNat < (6 - i_1.toInt).toNat; omega) ⟨(show 0 ≤ z_12.toInt ∧ z_12.toInt ≤ 6 from ⟨by omega, by omega⟩), hP.sub [0, 1] rfl, rfl, rfl, lv_sub hl [0, 1, 2, 3, 4] rfl⟩
set_option maxHeartbeats 4000000 in
set_option maxRecDepth 100000 in
theorem s_M_sumAll (l : Launch) (D : va_G) (k : Nat → ClassId) (mm : Nat → Nat) (mf : Nat → Int32) (f : Nat → Int32) (x : Int32) (w_hf : AI f 0) (w_hx : 49 ≤ x.toInt ∧ x.toInt ≤ 349) : Met l yX8_sumAll (Cond.code yX8_sumAll cX8_sumAll 4 (some .int) :: wsL_law) ({ frames := 1, cells := 0, slots := 0, locals := 60 } : Room) (va_Pc [.ref (mm 0), .int x] (pr D k [((mm 0), .inr (7, [.int (mf 0), .ref (mm 1), .ref (mm 2), .ref (mm 3), .ref (mm 4), .ref (mm 5), .int (mf 6), .int (mf 7), .int (mf 8), .int (mf 9), .int (mf 10), .int (mf 11), .int (mf 12), .int (mf 13), .int (mf 14), .int (mf 15), .int (mf 16), .ref (mm 6), .int (mf 18), .ref (mm 7), .ref (mm 8), .ref (mm 9), .int (mf 22), .ref (mm 10), .ref (mm 11), .int (mf 25), .int (mf 26), .ref (mm 12), .ref (mm 13), .int (mf 29), .ref (mm 14), .ref (mm 15), .ref (mm 16)])), ((mm 1), .inl (k 0, 1227, .inl f))])) (vp_Si (fun rr => True)) 0 0 (fun _ => False) := by
  refine Met.ofW (cc := cX8_sumAll) (maxL := 4) (ret := (some .int)) (by decide) rfl ?_
  intro p e s m args below meth c s₁ B hml hv
  obtain ⟨rfl, hP, hK, hN0⟩ := hv
  have hx := B.exec
  have hb := B.bytes
  have hr := B.returns
  have hts : ∀ w ∈ wsL_law, w.before _ s = true := fun w h => atoms_spec (ws := Cond.code yX8_sumAll cX8_sumAll 4 (some .int) :: wsL_law) B.pre w (List.mem_cons_of_mem _ h)
  have hown : s.vm.findClass RX8 = some m.cls := findClass_of_methodNamed B.named
  have hlocks := B.notSynchronized
  have hP : va_P D vwCl [((mm 0), .inr (7, [.int (mf 0), .ref (mm 1), .ref (mm 2), .ref (mm 3), .ref (mm 4), .ref (mm 5), .int (mf 6), .int (mf 7), .int (mf 8), .int (mf 9), .int (mf 10), .int (mf 11), .int (mf 12), .int (mf 13), .int (mf 14), .int (mf 15), .int (mf 16), .ref (mm 6), .int (mf 18), .ref (mm 7), .ref (mm 8), .ref (mm 9), .int (mf 22), .ref (mm 10), .ref (mm 11), .int (mf 25), .int (mf 26), .ref (mm 12), .ref (mm 13), .int (mf 29), .ref (mm 14), .ref (mm 15), .ref (mm 16)])), ((mm 1), .inl (k 0, 1227, .inl f))] s.heap := hP
  have hl := lv_entry ([.ref (mm 0), .int x]) (n := 4) (Nat.le_of_ble_eq_true rfl)
  rw [lg_entry_eq]
  generalize (lg_sl ([.ref (mm 0), .int x]) ++ List.replicate (4 - (lg_sl ([.ref (mm 0), .int x])).length) Slot.unset).toArray = ls at hl ⊢
  have hl : lv_has ls 4 [(0, .ref (mm 0)), (1, .int x)] := hl
  refine lv_iconst (v := 0) hx hb dX8_sumAll_0 (by decide) ?_
  refine lv_istore_n (lv' := [(2, .int 0), (0, .ref (mm 0)), (1, .int x)]) hx hb dX8_sumAll_1 rfl hl (by decide) rfl (fun ls hl => ?_)
  refine lv_iconst (v := 0) hx hb dX8_sumAll_2 (by decide) ?_
  refine lv_istore_n (lv' := [(3, .int 0), (2, .int 0), (0, .ref (mm 0)), (1, .int x)]) hx hb dX8_sumAll_3 rfl hl (by decide) rfl (fun ls hl => ?_)
  refine W_loop (σ := Int32 × Int32) (fun xx H locs ls => (0 ≤ xx.1.toInt ∧ xx.1.toInt ≤ 10) ∧ va_P D vwCl [((mm 0), .inr (7, [.int (mf 0), .ref (mm 1), .ref (mm 2), .ref (mm 3), .ref (mm 4), .ref (mm 5), .int (mf 6), .int (mf 7), .int (mf 8), .int (mf 9), .int (mf 10), .int (mf 11), .int (mf 12), .int (mf 13), .int (mf 14), .int (mf 15), .int (mf 16), .ref (mm 6), .int (mf 18), .ref (mm 7), .ref (mm 8), .ref (mm 9), .int (mf 22), .ref (mm 10), .ref (mm 11), .int (mf 25), .int (mf 26), .ref (mm 12), .ref (mm 13), .int (mf 29), .ref (mm 14), .ref (mm 15), .ref (mm 16)])), ((mm 1), .inl (k 0, 1227, .inl f))] H ∧ H = s.heap ∧ locs = [] ∧ lv_has ls 4 [(3, .int xx.1), (2, .int xx.2), (0, .ref (mm 0)), (1, .int x)]) (fun xx => (10 - xx.1.toInt).toNat) ?_ (0, 0) _ _ ls ⟨(show 0 ≤ (0 : Int32).toInt ∧ (0 : Int32).toInt ≤ 10 from ⟨by decide, by decide⟩), hP.sub [0, 1] rfl, rfl, rfl, lv_sub hl [0, 1, 2, 3] rfl⟩
  intro xx H locs ls hI ih4
  obtain ⟨i_1, y_2⟩ := xx
  obtain ⟨h_3, hP, rfl, rfl, hl⟩ := hI
  have h_3 : 0 ≤ i_1.toInt ∧ i_1.toInt ≤ 10 := h_3
  obtain ⟨h_3a, h_3b⟩ := h_3
  have hP : va_P D vwCl [((mm 0), .inr (7, [.int (mf 0), .ref (mm 1), .ref (mm 2), .ref (mm 3), .ref (mm 4), .ref (mm 5), .int (mf 6), .int (mf 7), .int (mf 8), .int (mf 9), .int (mf 10), .int (mf 11), .int (mf 12), .int (mf 13), .int (mf 14), .int (mf 15), .int (mf 16), .ref (mm 6), .int (mf 18), .ref (mm 7), .ref (mm 8), .ref (mm 9), .int (mf 22), .ref (mm 10), .ref (mm 11), .int (mf 25), .int (mf 26), .ref (mm 12), .ref (mm 13), .int (mf 29), .ref (mm 14), .ref (mm 15), .ref (mm 16)])), ((mm 1), .inl (k 0, 1227, .inl f))] s.heap := hP
  have hl : lv_has ls 4 [(3, .int i_1), (2, .int y_2), (0, .ref (mm 0)), (1, .int x)] := hl
  refine lv_iload_n hx hb dX8_sumAll_4 rfl (lv_at hl 0 rfl) ?_
  refine lv_aload_n hx hb dX8_sumAll_5 rfl (lv_at hl 2 rfl) ?_
  refine va_get (D := D) (ci := 7) (v := .ref (mm 1)) (C := RX8) (T := TX8) (N := 33) hx hb hts inlX8 hown hK hP 0 rfl rfl 1 (by decide) (hts _ mwm_91) (fun _ h9 => h9) rfl dX8_sumAll_6 ?_
  refine lv_iconst (v := 0) hx hb dX8_sumAll_9 (by decide) ?_
  refine va_iald hx hb hK hP 1 0 rfl rfl (vp_in_c (by decide)) dX8_sumAll_10 ?_
  refine lv_topi (fun z_4 ez_4 => ?_)
  have cz_4 : cv 0 z_4 := by rw [ez_4]; exact AI_at (n := 0) w_hf (by decide) (by decide)
  have bz_4 : 0 ≤ z_4.toInt ∧ z_4.toInt ≤ 10 := cz_4.1 (by decide)
  refine lv_icmp_ge (tgt := 29) hx hb dX8_sumAll_11 (by decide) (fun c_5 => ?_) (fun c_5 => ?_)
  · have c_5 : z_4.toInt ≤ i_1.toInt := ti_le c_5
    refine lv_iload_n hx hb dX8_sumAll_29 rfl (lv_at hl 1 rfl) ?_
    exact W.iret (v := y_2) hx hb hr (fun t ht hW => ⟨y_2, rfl, trivial, ht⟩) (fun q h => by cases h) dX8_sumAll_30
  · have c_5 : i_1.toInt < z_4.toInt := ti_nle c_5
    refine lv_iload_n hx hb dX8_sumAll_14 rfl (lv_at hl 1 rfl) ?_
    refine lv_aload_n hx hb dX8_sumAll_15 rfl (lv_at hl 2 rfl) ?_
    refine lv_iload_n hx hb dX8_sumAll_16 rfl (lv_at hl 0 rfl) ?_
    refine lv_iload_n hx hb dX8_sumAll_17 rfl (lv_at hl 3 rfl) ?_
    refine kV_i (q0 := 0) (As := [.int i_1, .int x]) (rest := [.int y_2]) ⟨hx, hb, hml, hown, hts⟩ (s_M_sumIn l D k _ mf f i_1 x w_hf (show 0 ≤ i_1.toInt ∧ i_1.toInt ≤ 9 from ⟨by omega, by omega⟩) (show 49 ≤ x.toInt ∧ x.toInt ≤ 349 from ⟨by omega, by omega⟩)) (gV mwm_433 mwm_434 mwm_435 mwm_5 mwm_436) hdm_yX8_sumIn rfl rfl ⟨Nat.le_of_ble_eq_true rfl, Nat.le_of_ble_eq_true rfl⟩ hK hN0 (hP.sub [0, 1] rfl) rfl rfl rfl rfl hl.1 rfl (Nat.le_of_ble_eq_true rfl) dX8_sumAll_18 ⟨Nat.le_of_ble_eq_true rfl, Nat.le_of_ble_eq_true rfl⟩ (fun r_6 hr_6 => ?_)
    refine lv_iadd hx hb dX8_sumAll_21 ?_
    refine lv_topi (fun z_7 ez_7 => ?_)
    refine lv_istore_n (lv' := [(2, .int z_7), (3, .int i_1), (0, .ref (mm 0)), (1, .int x)]) hx hb dX8_sumAll_22 rfl hl (by decide) rfl (fun ls hl => ?_)
    obtain ⟨z_8, ez_8⟩ : ∃ y : Int32, y = i_1 + 1 := ⟨_, rfl⟩
    have tz_8 : z_8.toInt = i_1.toInt + 1 := by rw [ez_8]; exact ti_addc (by decide) (by omega) (by omega)
    refine lv_iinc (v := z_8) (lv' := [(3, .int z_8), (2, .int z_7), (0, .ref (mm 0)), (1, .int x)]) hx hb dX8_sumAll_23 hl (k := 1) rfl (ez_8.symm) (by decide) rfl (fun ls hl => ?_)
    refine lv_goto (tgt := 4) hx hb dX8_sumAll_26 (by decide) ?_
    exact ih4 (z_8, z_7) _ _ ls (by show (10 - z_8.toInt).toNat < (10 - i_1.toInt).toNat; omega) ⟨(show 0 ≤ z_8.toInt ∧ z_8.toInt ≤ 10 from ⟨by omega, by omega⟩), hP.sub [0, 1] rfl, rfl, rfl, lv_sub hl [0, 1, 2, 3] rfl⟩
set_option maxHeartbeats 4000000 in
set_option maxRecDepth 100000 in
theorem s_M_laidAll (l : Launch) (D : va_G) (k : Nat → ClassId) (mm : Nat → Nat) (mf : Nat → Int32) (f : Nat → Int32) (w_hf : AI f 0) : Met l yX8_laidAll (Cond.code yX8_laidAll cX8_laidAll 3 (some .int) :: wsL_law) ({ frames := 0, cells := 0, slots := 0, locals := 0 } : Room) (va_Pc [.ref (mm 0)] (pr D k [((mm 0), .inr (7, [.int (mf 0), .ref (mm 1), .ref (mm 2), .ref (mm 3), .ref (mm 4), .ref (mm 5), .int (mf 6), .int (mf 7), .int (mf 8), .int (mf 9), .int (mf 10), .int (mf 11), .int (mf 12), .int (mf 13), .int (mf 14), .int (mf 15), .int (mf 16), .ref (mm 6), .int (mf 18), .ref (mm 7), .ref (mm 8), .ref (mm 9), .int (mf 22), .ref (mm 10), .ref (mm 11), .int (mf 25), .int (mf 26), .ref (mm 12), .ref (mm 13), .int (mf 29), .ref (mm 14), .ref (mm 15), .ref (mm 16)])), ((mm 1), .inl (k 0, 1227, .inl f))])) (vp_Si (fun rr => True)) 0 0 (fun _ => False) := by
  refine Met.ofW (cc := cX8_laidAll) (maxL := 3) (ret := (some .int)) (by decide) rfl ?_
  intro p e s m args below meth c s₁ B hml hv
  obtain ⟨rfl, hP, hK, hN0⟩ := hv
  have hx := B.exec
  have hb := B.bytes
  have hr := B.returns
  have hts : ∀ w ∈ wsL_law, w.before _ s = true := fun w h => atoms_spec (ws := Cond.code yX8_laidAll cX8_laidAll 3 (some .int) :: wsL_law) B.pre w (List.mem_cons_of_mem _ h)
  have hown : s.vm.findClass RX8 = some m.cls := findClass_of_methodNamed B.named
  have hlocks := B.notSynchronized
  have hP : va_P D vwCl [((mm 0), .inr (7, [.int (mf 0), .ref (mm 1), .ref (mm 2), .ref (mm 3), .ref (mm 4), .ref (mm 5), .int (mf 6), .int (mf 7), .int (mf 8), .int (mf 9), .int (mf 10), .int (mf 11), .int (mf 12), .int (mf 13), .int (mf 14), .int (mf 15), .int (mf 16), .ref (mm 6), .int (mf 18), .ref (mm 7), .ref (mm 8), .ref (mm 9), .int (mf 22), .ref (mm 10), .ref (mm 11), .int (mf 25), .int (mf 26), .ref (mm 12), .ref (mm 13), .int (mf 29), .ref (mm 14), .ref (mm 15), .ref (mm 16)])), ((mm 1), .inl (k 0, 1227, .inl f))] s.heap := hP
  have hl := lv_entry ([.ref (mm 0)]) (n := 3) (Nat.le_of_ble_eq_true rfl)
  rw [lg_entry_eq]
  generalize (lg_sl ([.ref (mm 0)]) ++ List.replicate (3 - (lg_sl ([.ref (mm 0)])).length) Slot.unset).toArray = ls at hl ⊢
  have hl : lv_has ls 3 [(0, .ref (mm 0))] := hl
  refine lv_iconst (v := 0) hx hb dX8_laidAll_0 (by decide) ?_
  refine lv_istore_n (lv' := [(1, .int 0), (0, .ref (mm 0))]) hx hb dX8_laidAll_1 rfl hl (by decide) rfl (fun ls hl => ?_)
  refine lv_iconst (v := 0) hx hb dX8_laidAll_2 (by decide) ?_
  refine lv_istore_n (lv' := [(2, .int 0), (1, .int 0), (0, .ref (mm 0))]) hx hb dX8_laidAll_3 rfl hl (by decide) rfl (fun ls hl => ?_)
  refine W_loop (σ := Int32 × Int32) (fun xx H locs ls => (0 ≤ xx.1.toInt ∧ xx.1.toInt ≤ 10) ∧ va_P D vwCl [((mm 0), .inr (7, [.int (mf 0), .ref (mm 1), .ref (mm 2), .ref (mm 3), .ref (mm 4), .ref (mm 5), .int (mf 6), .int (mf 7), .int (mf 8), .int (mf 9), .int (mf 10), .int (mf 11), .int (mf 12), .int (mf 13), .int (mf 14), .int (mf 15), .int (mf 16), .ref (mm 6), .int (mf 18), .ref (mm 7), .ref (mm 8), .ref (mm 9), .int (mf 22), .ref (mm 10), .ref (mm 11), .int (mf 25), .int (mf 26), .ref (mm 12), .ref (mm 13), .int (mf 29), .ref (mm 14), .ref (mm 15), .ref (mm 16)])), ((mm 1), .inl (k 0, 1227, .inl f))] H ∧ H = s.heap ∧ locs = [] ∧ lv_has ls 3 [(2, .int xx.1), (1, .int xx.2), (0, .ref (mm 0))]) (fun xx => (10 - xx.1.toInt).toNat) ?_ (0, 0) _ _ ls ⟨(show 0 ≤ (0 : Int32).toInt ∧ (0 : Int32).toInt ≤ 10 from ⟨by decide, by decide⟩), hP.sub [0, 1] rfl, rfl, rfl, lv_sub hl [0, 1, 2] rfl⟩
  intro xx H locs ls hI ih4
  obtain ⟨i_1, y_2⟩ := xx
  obtain ⟨h_3, hP, rfl, rfl, hl⟩ := hI
  have h_3 : 0 ≤ i_1.toInt ∧ i_1.toInt ≤ 10 := h_3
  obtain ⟨h_3a, h_3b⟩ := h_3
  have hP : va_P D vwCl [((mm 0), .inr (7, [.int (mf 0), .ref (mm 1), .ref (mm 2), .ref (mm 3), .ref (mm 4), .ref (mm 5), .int (mf 6), .int (mf 7), .int (mf 8), .int (mf 9), .int (mf 10), .int (mf 11), .int (mf 12), .int (mf 13), .int (mf 14), .int (mf 15), .int (mf 16), .ref (mm 6), .int (mf 18), .ref (mm 7), .ref (mm 8), .ref (mm 9), .int (mf 22), .ref (mm 10), .ref (mm 11), .int (mf 25), .int (mf 26), .ref (mm 12), .ref (mm 13), .int (mf 29), .ref (mm 14), .ref (mm 15), .ref (mm 16)])), ((mm 1), .inl (k 0, 1227, .inl f))] s.heap := hP
  have hl : lv_has ls 3 [(2, .int i_1), (1, .int y_2), (0, .ref (mm 0))] := hl
  refine lv_iload_n hx hb dX8_laidAll_4 rfl (lv_at hl 0 rfl) ?_
  refine lv_aload_n hx hb dX8_laidAll_5 rfl (lv_at hl 2 rfl) ?_
  refine va_get (D := D) (ci := 7) (v := .ref (mm 1)) (C := RX8) (T := TX8) (N := 33) hx hb hts inlX8 hown hK hP 0 rfl rfl 1 (by decide) (hts _ mwm_91) (fun _ h9 => h9) rfl dX8_laidAll_6 ?_
  refine lv_iconst (v := 0) hx hb dX8_laidAll_9 (by decide) ?_
  refine va_iald hx hb hK hP 1 0 rfl rfl (vp_in_c (by decide)) dX8_laidAll_10 ?_
  refine lv_topi (fun z_4 ez_4 => ?_)
  have cz_4 : cv 0 z_4 := by rw [ez_4]; exact AI_at (n := 0) w_hf (by decide) (by decide)
  have bz_4 : 0 ≤ z_4.toInt ∧ z_4.toInt ≤ 10 := cz_4.1 (by decide)
  refine lv_icmp_ge (tgt := 32) hx hb dX8_laidAll_11 (by decide) (fun c_5 => ?_) (fun c_5 => ?_)
  · have c_5 : z_4.toInt ≤ i_1.toInt := ti_le c_5
    refine lv_iload_n hx hb dX8_laidAll_32 rfl (lv_at hl 1 rfl) ?_
    exact W.iret (v := y_2) hx hb hr (fun t ht hW => ⟨y_2, rfl, trivial, ht⟩) (fun q h => by cases h) dX8_laidAll_33
  · have c_5 : i_1.toInt < z_4.toInt := ti_nle c_5
    refine lv_iload_n hx hb dX8_laidAll_14 rfl (lv_at hl 1 rfl) ?_
    refine lv_aload_n hx hb dX8_laidAll_15 rfl (lv_at hl 2 rfl) ?_
    refine va_get (D := D) (ci := 7) (v := .ref (mm 1)) (C := RX8) (T := TX8) (N := 33) hx hb hts inlX8 hown hK hP 0 rfl rfl 1 (by decide) (hts _ mwm_91) (fun _ h9 => h9) rfl dX8_laidAll_16 ?_
    refine lv_bipush (v := 29) hx hb dX8_laidAll_19 (by decide) ?_
    refine lv_iload_n hx hb dX8_laidAll_21 rfl (lv_at hl 0 rfl) ?_
    refine lv_iadd hx hb dX8_laidAll_22 ?_
    refine lv_topi (fun z_6 ez_6 => ?_)
    have tz_6 : z_6.toInt = 29 + i_1.toInt := by rw [ez_6]; exact ti_addcl (by decide) (by omega) (by omega)
    refine va_iald hx hb hK hP 1 0 rfl rfl (vp_in_o (by omega) (by omega)) dX8_laidAll_23 ?_
    refine lv_topi (fun z_7 ez_7 => ?_)
    have cz_7 : cv (z_6.toInt.toNat - 0) z_7 := by rw [ez_7, ti_cl]; exact AI_at w_hf (by omega) (by omega)
    refine lv_iadd hx hb dX8_laidAll_24 ?_
    refine lv_topi (fun z_8 ez_8 => ?_)
    refine lv_istore_n (lv' := [(1, .int z_8), (2, .int i_1), (0, .ref (mm 0))]) hx hb dX8_laidAll_25 rfl hl (by decide) rfl (fun ls hl => ?_)
    obtain ⟨z_9, ez_9⟩ : ∃ y : Int32, y = i_1 + 1 := ⟨_, rfl⟩
    have tz_9 : z_9.toInt = i_1.toInt + 1 := by rw [ez_9]; exact ti_addc (by decide) (by omega) (by omega)
    refine lv_iinc (v := z_9) (lv' := [(2, .int z_9), (1, .int z_8), (0, .ref (mm 0))]) hx hb dX8_laidAll_26 hl (k := 1) rfl (ez_9.symm) (by decide) rfl (fun ls hl => ?_)
    refine lv_goto (tgt := 4) hx hb dX8_laidAll_29 (by decide) ?_
    exact ih4 (z_9, z_8) _ _ ls (by show (10 - z_9.toInt).toNat < (10 - i_1.toInt).toNat; omega) ⟨(show 0 ≤ z_9.toInt ∧ z_9.toInt ≤ 10 from ⟨by omega, by omega⟩), hP.sub [0, 1] rfl, rfl, rfl, lv_sub hl [0, 1, 2] rfl⟩
set_option maxHeartbeats 4000000 in
set_option maxRecDepth 100000 in
theorem s_M_layersAll (l : Launch) (D : va_G) (k : Nat → ClassId) (mm : Nat → Nat) (mf : Nat → Int32) (f : Nat → Int32) (w_hf : AI f 0) : Met l yX8_layersAll (Cond.code yX8_layersAll cX8_layersAll 3 (some .int) :: wsL_law) ({ frames := 0, cells := 0, slots := 0, locals := 0 } : Room) (va_Pc [.ref (mm 0)] (pr D k [((mm 0), .inr (7, [.int (mf 0), .ref (mm 1), .ref (mm 2), .ref (mm 3), .ref (mm 4), .ref (mm 5), .int (mf 6), .int (mf 7), .int (mf 8), .int (mf 9), .int (mf 10), .int (mf 11), .int (mf 12), .int (mf 13), .int (mf 14), .int (mf 15), .int (mf 16), .ref (mm 6), .int (mf 18), .ref (mm 7), .ref (mm 8), .ref (mm 9), .int (mf 22), .ref (mm 10), .ref (mm 11), .int (mf 25), .int (mf 26), .ref (mm 12), .ref (mm 13), .int (mf 29), .ref (mm 14), .ref (mm 15), .ref (mm 16)])), ((mm 1), .inl (k 0, 1227, .inl f))])) (vp_Si (fun rr => True)) 0 0 (fun _ => False) := by
  refine Met.ofW (cc := cX8_layersAll) (maxL := 3) (ret := (some .int)) (by decide) rfl ?_
  intro p e s m args below meth c s₁ B hml hv
  obtain ⟨rfl, hP, hK, hN0⟩ := hv
  have hx := B.exec
  have hb := B.bytes
  have hr := B.returns
  have hts : ∀ w ∈ wsL_law, w.before _ s = true := fun w h => atoms_spec (ws := Cond.code yX8_layersAll cX8_layersAll 3 (some .int) :: wsL_law) B.pre w (List.mem_cons_of_mem _ h)
  have hown : s.vm.findClass RX8 = some m.cls := findClass_of_methodNamed B.named
  have hlocks := B.notSynchronized
  have hP : va_P D vwCl [((mm 0), .inr (7, [.int (mf 0), .ref (mm 1), .ref (mm 2), .ref (mm 3), .ref (mm 4), .ref (mm 5), .int (mf 6), .int (mf 7), .int (mf 8), .int (mf 9), .int (mf 10), .int (mf 11), .int (mf 12), .int (mf 13), .int (mf 14), .int (mf 15), .int (mf 16), .ref (mm 6), .int (mf 18), .ref (mm 7), .ref (mm 8), .ref (mm 9), .int (mf 22), .ref (mm 10), .ref (mm 11), .int (mf 25), .int (mf 26), .ref (mm 12), .ref (mm 13), .int (mf 29), .ref (mm 14), .ref (mm 15), .ref (mm 16)])), ((mm 1), .inl (k 0, 1227, .inl f))] s.heap := hP
  have hl := lv_entry ([.ref (mm 0)]) (n := 3) (Nat.le_of_ble_eq_true rfl)
  rw [lg_entry_eq]
  generalize (lg_sl ([.ref (mm 0)]) ++ List.replicate (3 - (lg_sl ([.ref (mm 0)])).length) Slot.unset).toArray = ls at hl ⊢
  have hl : lv_has ls 3 [(0, .ref (mm 0))] := hl
  refine lv_iconst (v := 0) hx hb dX8_layersAll_0 (by decide) ?_
  refine lv_istore_n (lv' := [(1, .int 0), (0, .ref (mm 0))]) hx hb dX8_layersAll_1 rfl hl (by decide) rfl (fun ls hl => ?_)
  refine lv_iconst (v := 0) hx hb dX8_layersAll_2 (by decide) ?_
  refine lv_istore_n (lv' := [(2, .int 0), (1, .int 0), (0, .ref (mm 0))]) hx hb dX8_layersAll_3 rfl hl (by decide) rfl (fun ls hl => ?_)
  refine W_loop (σ := Int32 × Int32) (fun xx H locs ls => (0 ≤ xx.1.toInt ∧ xx.1.toInt ≤ 10) ∧ va_P D vwCl [((mm 0), .inr (7, [.int (mf 0), .ref (mm 1), .ref (mm 2), .ref (mm 3), .ref (mm 4), .ref (mm 5), .int (mf 6), .int (mf 7), .int (mf 8), .int (mf 9), .int (mf 10), .int (mf 11), .int (mf 12), .int (mf 13), .int (mf 14), .int (mf 15), .int (mf 16), .ref (mm 6), .int (mf 18), .ref (mm 7), .ref (mm 8), .ref (mm 9), .int (mf 22), .ref (mm 10), .ref (mm 11), .int (mf 25), .int (mf 26), .ref (mm 12), .ref (mm 13), .int (mf 29), .ref (mm 14), .ref (mm 15), .ref (mm 16)])), ((mm 1), .inl (k 0, 1227, .inl f))] H ∧ H = s.heap ∧ locs = [] ∧ lv_has ls 3 [(2, .int xx.1), (1, .int xx.2), (0, .ref (mm 0))]) (fun xx => (10 - xx.1.toInt).toNat) ?_ (0, 0) _ _ ls ⟨(show 0 ≤ (0 : Int32).toInt ∧ (0 : Int32).toInt ≤ 10 from ⟨by decide, by decide⟩), hP.sub [0, 1] rfl, rfl, rfl, lv_sub hl [0, 1, 2] rfl⟩
  intro xx H locs ls hI ih4
  obtain ⟨i_1, y_2⟩ := xx
  obtain ⟨h_3, hP, rfl, rfl, hl⟩ := hI
  have h_3 : 0 ≤ i_1.toInt ∧ i_1.toInt ≤ 10 := h_3
  obtain ⟨h_3a, h_3b⟩ := h_3
  have hP : va_P D vwCl [((mm 0), .inr (7, [.int (mf 0), .ref (mm 1), .ref (mm 2), .ref (mm 3), .ref (mm 4), .ref (mm 5), .int (mf 6), .int (mf 7), .int (mf 8), .int (mf 9), .int (mf 10), .int (mf 11), .int (mf 12), .int (mf 13), .int (mf 14), .int (mf 15), .int (mf 16), .ref (mm 6), .int (mf 18), .ref (mm 7), .ref (mm 8), .ref (mm 9), .int (mf 22), .ref (mm 10), .ref (mm 11), .int (mf 25), .int (mf 26), .ref (mm 12), .ref (mm 13), .int (mf 29), .ref (mm 14), .ref (mm 15), .ref (mm 16)])), ((mm 1), .inl (k 0, 1227, .inl f))] s.heap := hP
  have hl : lv_has ls 3 [(2, .int i_1), (1, .int y_2), (0, .ref (mm 0))] := hl
  refine lv_iload_n hx hb dX8_layersAll_4 rfl (lv_at hl 0 rfl) ?_
  refine lv_aload_n hx hb dX8_layersAll_5 rfl (lv_at hl 2 rfl) ?_
  refine va_get (D := D) (ci := 7) (v := .ref (mm 1)) (C := RX8) (T := TX8) (N := 33) hx hb hts inlX8 hown hK hP 0 rfl rfl 1 (by decide) (hts _ mwm_91) (fun _ h9 => h9) rfl dX8_layersAll_6 ?_
  refine lv_iconst (v := 0) hx hb dX8_layersAll_9 (by decide) ?_
  refine va_iald hx hb hK hP 1 0 rfl rfl (vp_in_c (by decide)) dX8_layersAll_10 ?_
  refine lv_topi (fun z_4 ez_4 => ?_)
  have cz_4 : cv 0 z_4 := by rw [ez_4]; exact AI_at (n := 0) w_hf (by decide) (by decide)
  have bz_4 : 0 ≤ z_4.toInt ∧ z_4.toInt ≤ 10 := cz_4.1 (by decide)
  refine lv_icmp_ge (tgt := 32) hx hb dX8_layersAll_11 (by decide) (fun c_5 => ?_) (fun c_5 => ?_)
  · have c_5 : z_4.toInt ≤ i_1.toInt := ti_le c_5
    refine lv_iload_n hx hb dX8_layersAll_32 rfl (lv_at hl 1 rfl) ?_
    exact W.iret (v := y_2) hx hb hr (fun t ht hW => ⟨y_2, rfl, trivial, ht⟩) (fun q h => by cases h) dX8_layersAll_33
  · have c_5 : i_1.toInt < z_4.toInt := ti_nle c_5
    refine lv_iload_n hx hb dX8_layersAll_14 rfl (lv_at hl 1 rfl) ?_
    refine lv_aload_n hx hb dX8_layersAll_15 rfl (lv_at hl 2 rfl) ?_
    refine va_get (D := D) (ci := 7) (v := .ref (mm 1)) (C := RX8) (T := TX8) (N := 33) hx hb hts inlX8 hown hK hP 0 rfl rfl 1 (by decide) (hts _ mwm_91) (fun _ h9 => h9) rfl dX8_layersAll_16 ?_
    refine lv_bipush (v := 39) hx hb dX8_layersAll_19 (by decide) ?_
    refine lv_iload_n hx hb dX8_layersAll_21 rfl (lv_at hl 0 rfl) ?_
    refine lv_iadd hx hb dX8_layersAll_22 ?_
    refine lv_topi (fun z_6 ez_6 => ?_)
    have tz_6 : z_6.toInt = 39 + i_1.toInt := by rw [ez_6]; exact ti_addcl (by decide) (by omega) (by omega)
    refine va_iald hx hb hK hP 1 0 rfl rfl (vp_in_o (by omega) (by omega)) dX8_layersAll_23 ?_
    refine lv_topi (fun z_7 ez_7 => ?_)
    have cz_7 : cv (z_6.toInt.toNat - 0) z_7 := by rw [ez_7, ti_cl]; exact AI_at w_hf (by omega) (by omega)
    have bz_7 : 0 ≤ z_7.toInt ∧ z_7.toInt ≤ 6 := cz_7.2.2.1 (by omega) (by omega)
    refine lv_iadd hx hb dX8_layersAll_24 ?_
    refine lv_topi (fun z_8 ez_8 => ?_)
    refine lv_istore_n (lv' := [(1, .int z_8), (2, .int i_1), (0, .ref (mm 0))]) hx hb dX8_layersAll_25 rfl hl (by decide) rfl (fun ls hl => ?_)
    obtain ⟨z_9, ez_9⟩ : ∃ y : Int32, y = i_1 + 1 := ⟨_, rfl⟩
    have tz_9 : z_9.toInt = i_1.toInt + 1 := by rw [ez_9]; exact ti_addc (by decide) (by omega) (by omega)
    refine lv_iinc (v := z_9) (lv' := [(2, .int z_9), (1, .int z_8), (0, .ref (mm 0))]) hx hb dX8_layersAll_26 hl (k := 1) rfl (ez_9.symm) (by decide) rfl (fun ls hl => ?_)
    refine lv_goto (tgt := 4) hx hb dX8_layersAll_29 (by decide) ?_
    exact ih4 (z_9, z_8) _ _ ls (by show (10 - z_9.toInt).toNat < (10 - i_1.toInt).toNat; omega) ⟨(show 0 ≤ z_9.toInt ∧ z_9.toInt ≤ 10 from ⟨by omega, by omega⟩), hP.sub [0, 1] rfl, rfl, rfl, lv_sub hl [0, 1, 2] rfl⟩
