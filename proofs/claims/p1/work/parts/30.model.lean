theorem dX8_within_0 : decode cX8_within 0 = .ok (.lload_n 0, 1) := by decide +kernel
theorem dX8_within_1 : decode cX8_within 1 = .ok (.lload_n 2, 1) := by decide +kernel
theorem dX8_within_2 : decode cX8_within 2 = .ok (.lcmp, 1) := by decide +kernel
theorem dX8_within_3 : decode cX8_within 3 = .ok (.ifCond .lt 14, 3) := by decide +kernel
theorem dX8_within_17 : decode cX8_within 17 = .ok (.iconst 0, 1) := by decide +kernel
theorem dX8_within_18 : decode cX8_within 18 = .ok (.ireturn, 1) := by decide +kernel
theorem dX8_within_6 : decode cX8_within 6 = .ok (.lload_n 0, 1) := by decide +kernel
theorem dX8_within_7 : decode cX8_within 7 = .ok (.lload 4, 2) := by decide +kernel
theorem dX8_within_9 : decode cX8_within 9 = .ok (.lcmp, 1) := by decide +kernel
theorem dX8_within_10 : decode cX8_within 10 = .ok (.ifCond .gt 7, 3) := by decide +kernel
theorem dX8_within_13 : decode cX8_within 13 = .ok (.iconst 1, 1) := by decide +kernel
theorem dX8_within_14 : decode cX8_within 14 = .ok (.goto 4, 3) := by decide +kernel
theorem dX8_plain_0 : decode cX8_plain 0 = .ok (.iconst 0, 1) := by decide +kernel
theorem dX8_plain_1 : decode cX8_plain 1 = .ok (.istore_n 1, 1) := by decide +kernel
theorem dX8_plain_2 : decode cX8_plain 2 = .ok (.iload_n 1, 1) := by decide +kernel
theorem dX8_plain_3 : decode cX8_plain 3 = .ok (.sipush 409, 3) := by decide +kernel
theorem dX8_plain_6 : decode cX8_plain 6 = .ok (.if_icmp .ge 13, 3) := by decide +kernel
theorem dX8_plain_19 : decode cX8_plain 19 = .ok (.aload_n 0, 1) := by decide +kernel
theorem dX8_plain_20 : decode cX8_plain 20 = .ok (.iconst 2, 1) := by decide +kernel
theorem dX8_plain_21 : decode cX8_plain 21 = .ok (.iconst 3, 1) := by decide +kernel
theorem dX8_plain_22 : decode cX8_plain 22 = .ok (.iastore, 1) := by decide +kernel
theorem dX8_plain_23 : decode cX8_plain 23 = .ok (.aload_n 0, 1) := by decide +kernel
theorem dX8_plain_24 : decode cX8_plain 24 = .ok (.iconst 3, 1) := by decide +kernel
theorem dX8_plain_25 : decode cX8_plain 25 = .ok (.bipush 8, 2) := by decide +kernel
theorem dX8_plain_27 : decode cX8_plain 27 = .ok (.iastore, 1) := by decide +kernel
theorem dX8_plain_28 : decode cX8_plain 28 = .ok (.aload_n 0, 1) := by decide +kernel
theorem dX8_plain_29 : decode cX8_plain 29 = .ok (.iconst 4, 1) := by decide +kernel
theorem dX8_plain_30 : decode cX8_plain 30 = .ok (.iconst 4, 1) := by decide +kernel
theorem dX8_plain_31 : decode cX8_plain 31 = .ok (.iastore, 1) := by decide +kernel
theorem dX8_plain_32 : decode cX8_plain 32 = .ok (.aload_n 0, 1) := by decide +kernel
theorem dX8_plain_33 : decode cX8_plain 33 = .ok (.iconst 5, 1) := by decide +kernel
theorem dX8_plain_34 : decode cX8_plain 34 = .ok (.iconst 4, 1) := by decide +kernel
theorem dX8_plain_35 : decode cX8_plain 35 = .ok (.iastore, 1) := by decide +kernel
theorem dX8_plain_36 : decode cX8_plain 36 = .ok (.return_, 1) := by decide +kernel
theorem dX8_plain_9 : decode cX8_plain 9 = .ok (.aload_n 0, 1) := by decide +kernel
theorem dX8_plain_10 : decode cX8_plain 10 = .ok (.iload_n 1, 1) := by decide +kernel
theorem dX8_plain_11 : decode cX8_plain 11 = .ok (.iconst 0, 1) := by decide +kernel
theorem dX8_plain_12 : decode cX8_plain 12 = .ok (.iastore, 1) := by decide +kernel
theorem dX8_plain_13 : decode cX8_plain 13 = .ok (.iinc 1 1, 3) := by decide +kernel
theorem dX8_plain_16 : decode cX8_plain 16 = .ok (.goto (-14), 3) := by decide +kernel
theorem dX8_isIn_0 : decode cX8_isIn 0 = .ok (.lload_n 0, 1) := by decide +kernel
theorem dX8_isIn_1 : decode cX8_isIn 1 = .ok (.iload_n 2, 1) := by decide +kernel
theorem dX8_isIn_2 : decode cX8_isIn 2 = .ok (.lshr, 1) := by decide +kernel
theorem dX8_isIn_3 : decode cX8_isIn 3 = .ok (.lconst 1, 1) := by decide +kernel
theorem dX8_isIn_4 : decode cX8_isIn 4 = .ok (.land, 1) := by decide +kernel
theorem dX8_isIn_5 : decode cX8_isIn 5 = .ok (.lconst 1, 1) := by decide +kernel
theorem dX8_isIn_6 : decode cX8_isIn 6 = .ok (.lcmp, 1) := by decide +kernel
theorem dX8_isIn_7 : decode cX8_isIn 7 = .ok (.ifCond .ne 7, 3) := by decide +kernel
theorem dX8_isIn_14 : decode cX8_isIn 14 = .ok (.iconst 0, 1) := by decide +kernel
theorem dX8_isIn_15 : decode cX8_isIn 15 = .ok (.ireturn, 1) := by decide +kernel
theorem dX8_bitsOf_0 : decode cX8_bitsOf 0 = .ok (.iconst 0, 1) := by decide +kernel
theorem dX8_bitsOf_1 : decode cX8_bitsOf 1 = .ok (.istore_n 1, 1) := by decide +kernel
theorem dX8_bitsOf_2 : decode cX8_bitsOf 2 = .ok (.iconst 0, 1) := by decide +kernel
theorem dX8_bitsOf_3 : decode cX8_bitsOf 3 = .ok (.istore_n 2, 1) := by decide +kernel
theorem dX8_bitsOf_4 : decode cX8_bitsOf 4 = .ok (.iload_n 2, 1) := by decide +kernel
theorem dX8_bitsOf_5 : decode cX8_bitsOf 5 = .ok (.bipush 10, 2) := by decide +kernel
theorem dX8_bitsOf_7 : decode cX8_bitsOf 7 = .ok (.if_icmp .ge 26, 3) := by decide +kernel
theorem dX8_bitsOf_10 : decode cX8_bitsOf 10 = .ok (.iload_n 1, 1) := by decide +kernel
theorem dX8_bitsOf_11 : decode cX8_bitsOf 11 = .ok (.iload_n 0, 1) := by decide +kernel
theorem dX8_bitsOf_12 : decode cX8_bitsOf 12 = .ok (.i2l, 1) := by decide +kernel
theorem dX8_bitsOf_13 : decode cX8_bitsOf 13 = .ok (.iload_n 2, 1) := by decide +kernel
theorem dX8_bitsOf_14 : decode cX8_bitsOf 14 = .ok (.invokestatic 185, 3) := by decide +kernel
theorem hd_yX8_isIn : HD yX8_isIn RX8 2 := by decide +kernel
theorem mw_530 : Cond.methodLink RX8 185 yX8_isIn ∈ wsL_law := List.mem_of_getElem? (i := 530) (by decide +kernel)
theorem mw_531 : Cond.static yX8_isIn ∈ wsL_law := List.mem_of_getElem? (i := 531) (by decide +kernel)
theorem mw_5 : Cond.initialized RX8 ∈ wsL_law := List.mem_of_getElem? (i := 5) (by decide +kernel)
theorem mw_532 : Cond.code yX8_isIn cX8_isIn 3 (some .boolean) ∈ wsL_law := List.mem_of_getElem? (i := 532) (by decide +kernel)
theorem dX8_bitsOf_17 : decode cX8_bitsOf 17 = .ok (.ifCond .eq 7, 3) := by decide +kernel
theorem dX8_bitsOf_24 : decode cX8_bitsOf 24 = .ok (.iconst 0, 1) := by decide +kernel
theorem dX8_bitsOf_25 : decode cX8_bitsOf 25 = .ok (.iadd, 1) := by decide +kernel
theorem dX8_bitsOf_26 : decode cX8_bitsOf 26 = .ok (.istore_n 1, 1) := by decide +kernel
theorem dX8_bitsOf_27 : decode cX8_bitsOf 27 = .ok (.iinc 2 1, 3) := by decide +kernel
theorem dX8_bitsOf_30 : decode cX8_bitsOf 30 = .ok (.goto (-26), 3) := by decide +kernel
theorem dX8_bitsOf_33 : decode cX8_bitsOf 33 = .ok (.iload_n 1, 1) := by decide +kernel
theorem dX8_bitsOf_34 : decode cX8_bitsOf 34 = .ok (.ireturn, 1) := by decide +kernel
theorem dX8_power_0 : decode cX8_power 0 = .ok (.lconst 1, 1) := by decide +kernel
theorem dX8_power_1 : decode cX8_power 1 = .ok (.lstore_n 2, 1) := by decide +kernel
theorem dX8_power_2 : decode cX8_power 2 = .ok (.iconst 0, 1) := by decide +kernel
theorem dX8_power_3 : decode cX8_power 3 = .ok (.istore 4, 2) := by decide +kernel
theorem dX8_power_5 : decode cX8_power 5 = .ok (.iload 4, 2) := by decide +kernel
theorem dX8_power_7 : decode cX8_power 7 = .ok (.iload_n 1, 1) := by decide +kernel
theorem dX8_power_8 : decode cX8_power 8 = .ok (.if_icmp .ge 14, 3) := by decide +kernel
theorem dX8_power_22 : decode cX8_power 22 = .ok (.lload_n 2, 1) := by decide +kernel
theorem dX8_power_23 : decode cX8_power 23 = .ok (.lreturn, 1) := by decide +kernel
theorem dX8_isRoof_0 : decode cX8_isRoof 0 = .ok (.iload_n 1, 1) := by decide +kernel
theorem dX8_isRoof_1 : decode cX8_isRoof 1 = .ok (.i2l, 1) := by decide +kernel
theorem dX8_isRoof_2 : decode cX8_isRoof 2 = .ok (.lconst 0, 1) := by decide +kernel
theorem dX8_isRoof_3 : decode cX8_isRoof 3 = .ok (.aload_n 0, 1) := by decide +kernel
theorem dX8_isRoof_4 : decode cX8_isRoof 4 = .ok (.getfield 13, 3) := by decide +kernel
theorem mw_91 : Cond.fieldLink RX8 13 "ThatchNextModel" "all" "[I" ∈ wsL_law := List.mem_of_getElem? (i := 91) (by decide +kernel)
theorem dX8_isRoof_7 : decode cX8_isRoof 7 = .ok (.iconst 0, 1) := by decide +kernel
theorem dX8_isRoof_8 : decode cX8_isRoof 8 = .ok (.iaload, 1) := by decide +kernel
theorem dX8_isRoof_9 : decode cX8_isRoof 9 = .ok (.iconst 1, 1) := by decide +kernel
theorem dX8_isRoof_10 : decode cX8_isRoof 10 = .ok (.isub, 1) := by decide +kernel
theorem dX8_isRoof_11 : decode cX8_isRoof 11 = .ok (.i2l, 1) := by decide +kernel
theorem dX8_isRoof_12 : decode cX8_isRoof 12 = .ok (.invokestatic 131, 3) := by decide +kernel
theorem hd_yX8_within : HD yX8_within RX8 3 := by decide +kernel
theorem mw_294 : Cond.methodLink RX8 131 yX8_within ∈ wsL_law := List.mem_of_getElem? (i := 294) (by decide +kernel)
theorem mw_295 : Cond.static yX8_within ∈ wsL_law := List.mem_of_getElem? (i := 295) (by decide +kernel)
theorem mw_296 : Cond.code yX8_within cX8_within 6 (some .boolean) ∈ wsL_law := List.mem_of_getElem? (i := 296) (by decide +kernel)
theorem dX8_isRoof_15 : decode cX8_isRoof 15 = .ok (.ireturn, 1) := by decide +kernel
theorem dX8_rains_0 : decode cX8_rains 0 = .ok (.iconst 0, 1) := by decide +kernel
theorem dX8_rains_1 : decode cX8_rains 1 = .ok (.istore_n 1, 1) := by decide +kernel
theorem dX8_rains_2 : decode cX8_rains 2 = .ok (.iconst 0, 1) := by decide +kernel
theorem dX8_rains_3 : decode cX8_rains 3 = .ok (.istore_n 2, 1) := by decide +kernel
theorem dX8_rains_4 : decode cX8_rains 4 = .ok (.iload_n 2, 1) := by decide +kernel
theorem dX8_rains_5 : decode cX8_rains 5 = .ok (.aload_n 0, 1) := by decide +kernel
theorem dX8_rains_6 : decode cX8_rains 6 = .ok (.getfield 13, 3) := by decide +kernel
theorem dX8_rains_9 : decode cX8_rains 9 = .ok (.iconst 0, 1) := by decide +kernel
theorem dX8_rains_10 : decode cX8_rains 10 = .ok (.iaload, 1) := by decide +kernel
theorem dX8_rains_11 : decode cX8_rains 11 = .ok (.if_icmp .ge 79, 3) := by decide +kernel
theorem dX8_rains_90 : decode cX8_rains 90 = .ok (.iload_n 1, 1) := by decide +kernel
theorem dX8_rains_91 : decode cX8_rains 91 = .ok (.ireturn, 1) := by decide +kernel
theorem dX8_dripping_0 : decode cX8_dripping 0 = .ok (.iconst 0, 1) := by decide +kernel
theorem dX8_dripping_1 : decode cX8_dripping 1 = .ok (.istore_n 1, 1) := by decide +kernel
theorem dX8_dripping_2 : decode cX8_dripping 2 = .ok (.iconst 0, 1) := by decide +kernel
theorem dX8_dripping_3 : decode cX8_dripping 3 = .ok (.istore_n 2, 1) := by decide +kernel
theorem dX8_dripping_4 : decode cX8_dripping 4 = .ok (.iload_n 2, 1) := by decide +kernel
theorem dX8_dripping_5 : decode cX8_dripping 5 = .ok (.aload_n 0, 1) := by decide +kernel
theorem dX8_dripping_6 : decode cX8_dripping 6 = .ok (.getfield 13, 3) := by decide +kernel
theorem dX8_dripping_9 : decode cX8_dripping 9 = .ok (.iconst 0, 1) := by decide +kernel
theorem dX8_dripping_10 : decode cX8_dripping 10 = .ok (.iaload, 1) := by decide +kernel
theorem dX8_dripping_11 : decode cX8_dripping 11 = .ok (.if_icmp .ge 27, 3) := by decide +kernel
theorem dX8_dripping_38 : decode cX8_dripping 38 = .ok (.iload_n 1, 1) := by decide +kernel
theorem dX8_dripping_39 : decode cX8_dripping 39 = .ok (.ireturn, 1) := by decide +kernel
theorem dX8_laidAll_0 : decode cX8_laidAll 0 = .ok (.iconst 0, 1) := by decide +kernel
theorem dX8_laidAll_1 : decode cX8_laidAll 1 = .ok (.istore_n 1, 1) := by decide +kernel
theorem dX8_laidAll_2 : decode cX8_laidAll 2 = .ok (.iconst 0, 1) := by decide +kernel
theorem dX8_laidAll_3 : decode cX8_laidAll 3 = .ok (.istore_n 2, 1) := by decide +kernel
theorem dX8_laidAll_4 : decode cX8_laidAll 4 = .ok (.iload_n 2, 1) := by decide +kernel
theorem dX8_laidAll_5 : decode cX8_laidAll 5 = .ok (.aload_n 0, 1) := by decide +kernel
theorem dX8_laidAll_6 : decode cX8_laidAll 6 = .ok (.getfield 13, 3) := by decide +kernel
theorem dX8_laidAll_9 : decode cX8_laidAll 9 = .ok (.iconst 0, 1) := by decide +kernel
theorem dX8_laidAll_10 : decode cX8_laidAll 10 = .ok (.iaload, 1) := by decide +kernel
theorem dX8_laidAll_11 : decode cX8_laidAll 11 = .ok (.if_icmp .ge 21, 3) := by decide +kernel
theorem dX8_laidAll_32 : decode cX8_laidAll 32 = .ok (.iload_n 1, 1) := by decide +kernel
theorem dX8_laidAll_33 : decode cX8_laidAll 33 = .ok (.ireturn, 1) := by decide +kernel
theorem dX8_slates_0 : decode cX8_slates 0 = .ok (.iconst 0, 1) := by decide +kernel
theorem dX8_slates_1 : decode cX8_slates 1 = .ok (.istore_n 1, 1) := by decide +kernel
theorem dX8_slates_2 : decode cX8_slates 2 = .ok (.iconst 0, 1) := by decide +kernel
theorem dX8_slates_3 : decode cX8_slates 3 = .ok (.istore_n 2, 1) := by decide +kernel
theorem dX8_slates_4 : decode cX8_slates 4 = .ok (.iload_n 2, 1) := by decide +kernel
theorem dX8_slates_5 : decode cX8_slates 5 = .ok (.aload_n 0, 1) := by decide +kernel
theorem dX8_slates_6 : decode cX8_slates 6 = .ok (.getfield 13, 3) := by decide +kernel
theorem dX8_slates_9 : decode cX8_slates 9 = .ok (.iconst 0, 1) := by decide +kernel
theorem dX8_slates_10 : decode cX8_slates 10 = .ok (.iaload, 1) := by decide +kernel
theorem dX8_slates_11 : decode cX8_slates 11 = .ok (.if_icmp .ge 27, 3) := by decide +kernel
theorem dX8_slates_38 : decode cX8_slates 38 = .ok (.iload_n 1, 1) := by decide +kernel
theorem dX8_slates_39 : decode cX8_slates 39 = .ok (.ireturn, 1) := by decide +kernel
theorem dX8_layersAll_0 : decode cX8_layersAll 0 = .ok (.iconst 0, 1) := by decide +kernel
theorem dX8_layersAll_1 : decode cX8_layersAll 1 = .ok (.istore_n 1, 1) := by decide +kernel
theorem dX8_layersAll_2 : decode cX8_layersAll 2 = .ok (.iconst 0, 1) := by decide +kernel
theorem dX8_layersAll_3 : decode cX8_layersAll 3 = .ok (.istore_n 2, 1) := by decide +kernel
theorem dX8_layersAll_4 : decode cX8_layersAll 4 = .ok (.iload_n 2, 1) := by decide +kernel
theorem dX8_layersAll_5 : decode cX8_layersAll 5 = .ok (.aload_n 0, 1) := by decide +kernel
theorem dX8_layersAll_6 : decode cX8_layersAll 6 = .ok (.getfield 13, 3) := by decide +kernel
theorem dX8_layersAll_9 : decode cX8_layersAll 9 = .ok (.iconst 0, 1) := by decide +kernel
theorem dX8_layersAll_10 : decode cX8_layersAll 10 = .ok (.iaload, 1) := by decide +kernel
theorem dX8_layersAll_11 : decode cX8_layersAll 11 = .ok (.if_icmp .ge 21, 3) := by decide +kernel
theorem dX8_layersAll_32 : decode cX8_layersAll 32 = .ok (.iload_n 1, 1) := by decide +kernel
theorem dX8_layersAll_33 : decode cX8_layersAll 33 = .ok (.ireturn, 1) := by decide +kernel
theorem dX8_sumAll_0 : decode cX8_sumAll 0 = .ok (.iconst 0, 1) := by decide +kernel
theorem dX8_sumAll_1 : decode cX8_sumAll 1 = .ok (.istore_n 2, 1) := by decide +kernel
theorem dX8_sumAll_2 : decode cX8_sumAll 2 = .ok (.iconst 0, 1) := by decide +kernel
theorem dX8_sumAll_3 : decode cX8_sumAll 3 = .ok (.istore_n 3, 1) := by decide +kernel
theorem dX8_sumAll_4 : decode cX8_sumAll 4 = .ok (.iload_n 3, 1) := by decide +kernel
theorem dX8_sumAll_5 : decode cX8_sumAll 5 = .ok (.aload_n 0, 1) := by decide +kernel
theorem dX8_sumAll_6 : decode cX8_sumAll 6 = .ok (.getfield 13, 3) := by decide +kernel
theorem dX8_sumAll_9 : decode cX8_sumAll 9 = .ok (.iconst 0, 1) := by decide +kernel
theorem dX8_sumAll_10 : decode cX8_sumAll 10 = .ok (.iaload, 1) := by decide +kernel
theorem dX8_sumAll_11 : decode cX8_sumAll 11 = .ok (.if_icmp .ge 18, 3) := by decide +kernel
theorem dX8_sumAll_29 : decode cX8_sumAll 29 = .ok (.iload_n 2, 1) := by decide +kernel
theorem dX8_sumAll_30 : decode cX8_sumAll 30 = .ok (.ireturn, 1) := by decide +kernel
theorem dX8_sparkAt_0 : decode cX8_sparkAt 0 = .ok (.iload_n 1, 1) := by decide +kernel
theorem dX8_sparkAt_1 : decode cX8_sparkAt 1 = .ok (.istore_n 2, 1) := by decide +kernel
theorem dX8_sparkAt_2 : decode cX8_sparkAt 2 = .ok (.iconst 0, 1) := by decide +kernel
theorem dX8_sparkAt_3 : decode cX8_sparkAt 3 = .ok (.istore_n 3, 1) := by decide +kernel
theorem dX8_sparkAt_4 : decode cX8_sparkAt 4 = .ok (.iload_n 3, 1) := by decide +kernel
theorem dX8_sparkAt_5 : decode cX8_sparkAt 5 = .ok (.aload_n 0, 1) := by decide +kernel
theorem dX8_sparkAt_6 : decode cX8_sparkAt 6 = .ok (.getfield 13, 3) := by decide +kernel
theorem dX8_sparkAt_9 : decode cX8_sparkAt 9 = .ok (.iconst 0, 1) := by decide +kernel
theorem dX8_sparkAt_10 : decode cX8_sparkAt 10 = .ok (.iaload, 1) := by decide +kernel
theorem dX8_sparkAt_11 : decode cX8_sparkAt 11 = .ok (.if_icmp .ge 73, 3) := by decide +kernel
theorem dX8_sparkAt_84 : decode cX8_sparkAt 84 = .ok (.iconst (-1), 1) := by decide +kernel
theorem dX8_sparkAt_85 : decode cX8_sparkAt 85 = .ok (.ireturn, 1) := by decide +kernel
theorem dX8_isSet_0 : decode cX8_isSet 0 = .ok (.lload_n 1, 1) := by decide +kernel
theorem dX8_isSet_1 : decode cX8_isSet 1 = .ok (.lconst 0, 1) := by decide +kernel
theorem dX8_isSet_2 : decode cX8_isSet 2 = .ok (.lconst 1, 1) := by decide +kernel
theorem dX8_isSet_3 : decode cX8_isSet 3 = .ok (.aload_n 0, 1) := by decide +kernel
theorem dX8_isSet_4 : decode cX8_isSet 4 = .ok (.getfield 13, 3) := by decide +kernel
theorem dX8_isSet_7 : decode cX8_isSet 7 = .ok (.iconst 0, 1) := by decide +kernel
theorem dX8_isSet_8 : decode cX8_isSet 8 = .ok (.iaload, 1) := by decide +kernel
theorem dX8_isSet_9 : decode cX8_isSet 9 = .ok (.lshl, 1) := by decide +kernel
theorem dX8_isSet_10 : decode cX8_isSet 10 = .ok (.lconst 1, 1) := by decide +kernel
theorem dX8_isSet_11 : decode cX8_isSet 11 = .ok (.lsub, 1) := by decide +kernel
theorem dX8_isSet_12 : decode cX8_isSet 12 = .ok (.invokestatic 131, 3) := by decide +kernel
theorem dX8_isSet_15 : decode cX8_isSet 15 = .ok (.ireturn, 1) := by decide +kernel
theorem dX8_maySkip_0 : decode cX8_maySkip 0 = .ok (.aload_n 0, 1) := by decide +kernel
theorem dX8_maySkip_1 : decode cX8_maySkip 1 = .ok (.lload_n 1, 1) := by decide +kernel
theorem dX8_maySkip_2 : decode cX8_maySkip 2 = .ok (.invokevirtual 197, 3) := by decide +kernel
theorem hd_yX8_isSet : HD yX8_isSet RX8 1 := by decide +kernel
theorem mw_518 : Cond.methodLink RX8 197 yX8_isSet ∈ wsL_law := List.mem_of_getElem? (i := 518) (by decide +kernel)
theorem mw_519 : Cond.instanceMethod yX8_isSet ∈ wsL_law := List.mem_of_getElem? (i := 519) (by decide +kernel)
theorem mw_520 : Cond.selects RX8 yX8_isSet yX8_isSet ∈ wsL_law := List.mem_of_getElem? (i := 520) (by decide +kernel)
theorem mw_521 : Cond.code yX8_isSet cX8_isSet 3 (some .boolean) ∈ wsL_law := List.mem_of_getElem? (i := 521) (by decide +kernel)
theorem dX8_maySkip_5 : decode cX8_maySkip 5 = .ok (.ifCond .eq 19, 3) := by decide +kernel
theorem dX8_maySkip_8 : decode cX8_maySkip 8 = .ok (.lload_n 1, 1) := by decide +kernel
theorem dX8_maySkip_9 : decode cX8_maySkip 9 = .ok (.aload_n 0, 1) := by decide +kernel
theorem dX8_maySkip_10 : decode cX8_maySkip 10 = .ok (.invokevirtual 201, 3) := by decide +kernel
theorem hd_yX8_slates : HD yX8_slates RX8 0 := by decide +kernel
theorem mw_522 : Cond.methodLink RX8 201 yX8_slates ∈ wsL_law := List.mem_of_getElem? (i := 522) (by decide +kernel)
theorem mw_523 : Cond.instanceMethod yX8_slates ∈ wsL_law := List.mem_of_getElem? (i := 523) (by decide +kernel)
theorem mw_524 : Cond.selects RX8 yX8_slates yX8_slates ∈ wsL_law := List.mem_of_getElem? (i := 524) (by decide +kernel)
theorem mw_525 : Cond.code yX8_slates cX8_slates 3 (some .int) ∈ wsL_law := List.mem_of_getElem? (i := 525) (by decide +kernel)
theorem dX8_maySkip_13 : decode cX8_maySkip 13 = .ok (.i2l, 1) := by decide +kernel
theorem dX8_maySkip_14 : decode cX8_maySkip 14 = .ok (.land, 1) := by decide +kernel
theorem dX8_maySkip_15 : decode cX8_maySkip 15 = .ok (.lconst 0, 1) := by decide +kernel
theorem dX8_maySkip_16 : decode cX8_maySkip 16 = .ok (.lcmp, 1) := by decide +kernel
theorem dX8_maySkip_17 : decode cX8_maySkip 17 = .ok (.ifCond .ne 7, 3) := by decide +kernel
theorem dX8_maySkip_20 : decode cX8_maySkip 20 = .ok (.iconst 1, 1) := by decide +kernel
theorem dX8_maySkip_21 : decode cX8_maySkip 21 = .ok (.goto 4, 3) := by decide +kernel
theorem dX8_maySkip_25 : decode cX8_maySkip 25 = .ok (.ireturn, 1) := by decide +kernel
theorem dX8_maySkip_24 : decode cX8_maySkip 24 = .ok (.iconst 0, 1) := by decide +kernel
theorem dX8_refuses_0 : decode cX8_refuses 0 = .ok (.aload_n 0, 1) := by decide +kernel
theorem dX8_refuses_1 : decode cX8_refuses 1 = .ok (.lload_n 1, 1) := by decide +kernel
theorem dX8_refuses_2 : decode cX8_refuses 2 = .ok (.invokevirtual 197, 3) := by decide +kernel
theorem dX8_refuses_5 : decode cX8_refuses 5 = .ok (.ifCond .ne 7, 3) := by decide +kernel
theorem dX8_refuses_12 : decode cX8_refuses 12 = .ok (.lload_n 1, 1) := by decide +kernel
theorem dX8_refuses_13 : decode cX8_refuses 13 = .ok (.aload_n 0, 1) := by decide +kernel
theorem dX8_refuses_14 : decode cX8_refuses 14 = .ok (.invokevirtual 201, 3) := by decide +kernel
theorem dX8_refuses_17 : decode cX8_refuses 17 = .ok (.i2l, 1) := by decide +kernel
theorem dX8_refuses_18 : decode cX8_refuses 18 = .ok (.land, 1) := by decide +kernel
theorem dX8_refuses_19 : decode cX8_refuses 19 = .ok (.lconst 0, 1) := by decide +kernel
theorem dX8_refuses_20 : decode cX8_refuses 20 = .ok (.lcmp, 1) := by decide +kernel
theorem dX8_refuses_21 : decode cX8_refuses 21 = .ok (.ifCond .eq 7, 3) := by decide +kernel
theorem dX8_refuses_28 : decode cX8_refuses 28 = .ok (.aload_n 0, 1) := by decide +kernel
theorem dX8_refuses_29 : decode cX8_refuses 29 = .ok (.getfield 13, 3) := by decide +kernel
theorem dX8_refuses_32 : decode cX8_refuses 32 = .ok (.iconst 1, 1) := by decide +kernel
theorem dX8_refuses_33 : decode cX8_refuses 33 = .ok (.iaload, 1) := by decide +kernel
theorem dX8_refuses_34 : decode cX8_refuses 34 = .ok (.sipush 999, 3) := by decide +kernel
theorem dX8_refuses_37 : decode cX8_refuses 37 = .ok (.if_icmp .ne 7, 3) := by decide +kernel
theorem dX8_refuses_44 : decode cX8_refuses 44 = .ok (.iconst 0, 1) := by decide +kernel
theorem dX8_refuses_45 : decode cX8_refuses 45 = .ok (.ireturn, 1) := by decide +kernel
theorem dX8_refuses_8 : decode cX8_refuses 8 = .ok (.iconst 1, 1) := by decide +kernel
theorem dX8_refuses_9 : decode cX8_refuses 9 = .ok (.goto 36, 3) := by decide +kernel
theorem dX8_goes_0 : decode cX8_goes 0 = .ok (.iconst 0, 1) := by decide +kernel
theorem dX8_goes_1 : decode cX8_goes 1 = .ok (.istore_n 2, 1) := by decide +kernel
theorem dX8_goes_2 : decode cX8_goes 2 = .ok (.iload_n 2, 1) := by decide +kernel
theorem dX8_goes_3 : decode cX8_goes 3 = .ok (.sipush 409, 3) := by decide +kernel
theorem dX8_goes_6 : decode cX8_goes 6 = .ok (.if_icmp .ge 21, 3) := by decide +kernel
theorem dX8_goes_27 : decode cX8_goes 27 = .ok (.iconst 0, 1) := by decide +kernel
theorem dX8_goes_28 : decode cX8_goes 28 = .ok (.istore_n 2, 1) := by decide +kernel
theorem dX8_goes_29 : decode cX8_goes 29 = .ok (.iload_n 2, 1) := by decide +kernel
theorem dX8_goes_30 : decode cX8_goes 30 = .ok (.aload_n 0, 1) := by decide +kernel
theorem dX8_goes_31 : decode cX8_goes 31 = .ok (.getfield 13, 3) := by decide +kernel
theorem dX8_goes_34 : decode cX8_goes 34 = .ok (.iconst 0, 1) := by decide +kernel
theorem dX8_goes_35 : decode cX8_goes 35 = .ok (.iaload, 1) := by decide +kernel
theorem dX8_goes_36 : decode cX8_goes 36 = .ok (.if_icmp .ge 101, 3) := by decide +kernel
theorem dX8_goes_137 : decode cX8_goes 137 = .ok (.iconst 0, 1) := by decide +kernel
theorem dX8_goes_138 : decode cX8_goes 138 = .ok (.istore_n 2, 1) := by decide +kernel
theorem dX8_goes_139 : decode cX8_goes 139 = .ok (.iload_n 2, 1) := by decide +kernel
theorem dX8_goes_140 : decode cX8_goes 140 = .ok (.sipush 409, 3) := by decide +kernel
theorem dX8_goes_143 : decode cX8_goes 143 = .ok (.if_icmp .ge 21, 3) := by decide +kernel
theorem dX8_goes_164 : decode cX8_goes 164 = .ok (.aload_n 0, 1) := by decide +kernel
theorem dX8_goes_165 : decode cX8_goes 165 = .ok (.getfield 13, 3) := by decide +kernel
theorem dX8_goes_168 : decode cX8_goes 168 = .ok (.iconst 1, 1) := by decide +kernel
theorem dX8_goes_169 : decode cX8_goes 169 = .ok (.dup2, 1) := by decide +kernel
theorem dX8_goes_170 : decode cX8_goes 170 = .ok (.iaload, 1) := by decide +kernel
theorem dX8_goes_171 : decode cX8_goes 171 = .ok (.iconst 1, 1) := by decide +kernel
theorem dX8_goes_172 : decode cX8_goes 172 = .ok (.iadd, 1) := by decide +kernel
theorem dX8_goes_173 : decode cX8_goes 173 = .ok (.iastore, 1) := by decide +kernel
theorem dX8_goes_174 : decode cX8_goes 174 = .ok (.return_, 1) := by decide +kernel
theorem dX8_goes_146 : decode cX8_goes 146 = .ok (.aload_n 0, 1) := by decide +kernel
theorem dX8_goes_147 : decode cX8_goes 147 = .ok (.getfield 13, 3) := by decide +kernel
theorem dX8_goes_150 : decode cX8_goes 150 = .ok (.iload_n 2, 1) := by decide +kernel
theorem dX8_goes_151 : decode cX8_goes 151 = .ok (.aload_n 0, 1) := by decide +kernel
theorem dX8_goes_152 : decode cX8_goes 152 = .ok (.getfield 17, 3) := by decide +kernel
theorem mw_92 : Cond.fieldLink RX8 17 "ThatchNextModel" "next" "[I" ∈ wsL_law := List.mem_of_getElem? (i := 92) (by decide +kernel)
theorem dX8_goes_155 : decode cX8_goes 155 = .ok (.iload_n 2, 1) := by decide +kernel
theorem dX8_goes_156 : decode cX8_goes 156 = .ok (.iaload, 1) := by decide +kernel
theorem dX8_goes_157 : decode cX8_goes 157 = .ok (.iastore, 1) := by decide +kernel
theorem dX8_goes_158 : decode cX8_goes 158 = .ok (.iinc 2 1, 3) := by decide +kernel
theorem dX8_goes_161 : decode cX8_goes 161 = .ok (.goto (-22), 3) := by decide +kernel
theorem dX8_goes_9 : decode cX8_goes 9 = .ok (.aload_n 0, 1) := by decide +kernel
theorem dX8_goes_10 : decode cX8_goes 10 = .ok (.getfield 17, 3) := by decide +kernel
theorem dX8_goes_13 : decode cX8_goes 13 = .ok (.iload_n 2, 1) := by decide +kernel
theorem dX8_goes_14 : decode cX8_goes 14 = .ok (.aload_n 0, 1) := by decide +kernel
theorem dX8_goes_15 : decode cX8_goes 15 = .ok (.getfield 13, 3) := by decide +kernel
theorem dX8_goes_18 : decode cX8_goes 18 = .ok (.iload_n 2, 1) := by decide +kernel
theorem dX8_goes_19 : decode cX8_goes 19 = .ok (.iaload, 1) := by decide +kernel
theorem dX8_goes_20 : decode cX8_goes 20 = .ok (.iastore, 1) := by decide +kernel
theorem dX8_goes_21 : decode cX8_goes 21 = .ok (.iinc 2 1, 3) := by decide +kernel
theorem dX8_goes_24 : decode cX8_goes 24 = .ok (.goto (-22), 3) := by decide +kernel
theorem dX8_keeps_0 : decode cX8_keeps 0 = .ok (.iconst 0, 1) := by decide +kernel
theorem dX8_keeps_1 : decode cX8_keeps 1 = .ok (.istore_n 2, 1) := by decide +kernel
theorem dX8_keeps_2 : decode cX8_keeps 2 = .ok (.iload_n 2, 1) := by decide +kernel
theorem dX8_keeps_3 : decode cX8_keeps 3 = .ok (.sipush 409, 3) := by decide +kernel
theorem dX8_keeps_6 : decode cX8_keeps 6 = .ok (.if_icmp .ge 27, 3) := by decide +kernel
theorem dX8_keeps_33 : decode cX8_keeps 33 = .ok (.return_, 1) := by decide +kernel
theorem dX8_keeps_9 : decode cX8_keeps 9 = .ok (.aload_n 0, 1) := by decide +kernel
theorem dX8_keeps_10 : decode cX8_keeps 10 = .ok (.getfield 33, 3) := by decide +kernel
theorem mw_97 : Cond.fieldLink RX8 33 "ThatchNextModel" "kept" "[I" ∈ wsL_law := List.mem_of_getElem? (i := 97) (by decide +kernel)
theorem dX8_keeps_13 : decode cX8_keeps 13 = .ok (.sipush 409, 3) := by decide +kernel
theorem dX8_keeps_16 : decode cX8_keeps 16 = .ok (.iload_n 1, 1) := by decide +kernel
theorem dX8_keeps_17 : decode cX8_keeps 17 = .ok (.imul, 1) := by decide +kernel
theorem dX8_keeps_18 : decode cX8_keeps 18 = .ok (.iload_n 2, 1) := by decide +kernel
theorem dX8_keeps_19 : decode cX8_keeps 19 = .ok (.iadd, 1) := by decide +kernel
theorem dX8_keeps_20 : decode cX8_keeps 20 = .ok (.aload_n 0, 1) := by decide +kernel
theorem dX8_keeps_21 : decode cX8_keeps 21 = .ok (.getfield 13, 3) := by decide +kernel
theorem dX8_keeps_24 : decode cX8_keeps 24 = .ok (.iload_n 2, 1) := by decide +kernel
theorem dX8_keeps_25 : decode cX8_keeps 25 = .ok (.iaload, 1) := by decide +kernel
theorem dX8_keeps_26 : decode cX8_keeps 26 = .ok (.iastore, 1) := by decide +kernel
theorem dX8_keeps_27 : decode cX8_keeps 27 = .ok (.iinc 2 1, 3) := by decide +kernel
theorem dX8_keeps_30 : decode cX8_keeps 30 = .ok (.goto (-28), 3) := by decide +kernel
theorem dX8_isAgain_0 : decode cX8_isAgain 0 = .ok (.iconst 0, 1) := by decide +kernel
theorem dX8_isAgain_1 : decode cX8_isAgain 1 = .ok (.istore_n 2, 1) := by decide +kernel
theorem dX8_isAgain_2 : decode cX8_isAgain 2 = .ok (.iload_n 2, 1) := by decide +kernel
theorem dX8_isAgain_3 : decode cX8_isAgain 3 = .ok (.sipush 409, 3) := by decide +kernel
theorem dX8_isAgain_6 : decode cX8_isAgain 6 = .ok (.if_icmp .ge 27, 3) := by decide +kernel
theorem dX8_isAgain_33 : decode cX8_isAgain 33 = .ok (.return_, 1) := by decide +kernel
theorem dX8_isAgain_9 : decode cX8_isAgain 9 = .ok (.aload_n 0, 1) := by decide +kernel
theorem dX8_isAgain_10 : decode cX8_isAgain 10 = .ok (.getfield 13, 3) := by decide +kernel
theorem dX8_isAgain_13 : decode cX8_isAgain 13 = .ok (.iload_n 2, 1) := by decide +kernel
theorem dX8_isAgain_14 : decode cX8_isAgain 14 = .ok (.aload_n 0, 1) := by decide +kernel
theorem dX8_isAgain_15 : decode cX8_isAgain 15 = .ok (.getfield 33, 3) := by decide +kernel
theorem dX8_isAgain_18 : decode cX8_isAgain 18 = .ok (.sipush 409, 3) := by decide +kernel
theorem dX8_isAgain_21 : decode cX8_isAgain 21 = .ok (.iload_n 1, 1) := by decide +kernel
theorem dX8_isAgain_22 : decode cX8_isAgain 22 = .ok (.imul, 1) := by decide +kernel
theorem dX8_isAgain_23 : decode cX8_isAgain 23 = .ok (.iload_n 2, 1) := by decide +kernel
theorem dX8_isAgain_24 : decode cX8_isAgain 24 = .ok (.iadd, 1) := by decide +kernel
theorem dX8_isAgain_25 : decode cX8_isAgain 25 = .ok (.iaload, 1) := by decide +kernel
theorem dX8_isAgain_26 : decode cX8_isAgain 26 = .ok (.iastore, 1) := by decide +kernel
theorem dX8_isAgain_27 : decode cX8_isAgain 27 = .ok (.iinc 2 1, 3) := by decide +kernel
theorem dX8_isAgain_30 : decode cX8_isAgain 30 = .ok (.goto (-28), 3) := by decide +kernel
theorem dX8_see_0 : decode cX8_see 0 = .ok (.iload_n 1, 1) := by decide +kernel
theorem dX8_see_1 : decode cX8_see 1 = .ok (.aload_n 0, 1) := by decide +kernel
theorem dX8_see_2 : decode cX8_see 2 = .ok (.getfield 74, 3) := by decide +kernel
theorem mw_287 : Cond.fieldLink RX8 74 "ThatchNextModel" "size" "I" ∈ wsL_law := List.mem_of_getElem? (i := 287) (by decide +kernel)
theorem dX8_see_5 : decode cX8_see 5 = .ok (.if_icmp .ge 12, 3) := by decide +kernel
theorem dX8_see_17 : decode cX8_see 17 = .ok (.iconst (-1), 1) := by decide +kernel
theorem dX8_see_18 : decode cX8_see 18 = .ok (.ireturn, 1) := by decide +kernel
theorem dX8_nextToken_0 : decode cX8_nextToken 0 = .ok (.aload_n 0, 1) := by decide +kernel
theorem dX8_nextToken_1 : decode cX8_nextToken 1 = .ok (.aload_n 0, 1) := by decide +kernel
theorem dX8_nextToken_2 : decode cX8_nextToken 2 = .ok (.getfield 92, 3) := by decide +kernel
theorem mw_288 : Cond.fieldLink RX8 92 "ThatchNextModel" "behind" "I" ∈ wsL_law := List.mem_of_getElem? (i := 288) (by decide +kernel)
theorem dX8_nextToken_5 : decode cX8_nextToken 5 = .ok (.putfield 89, 3) := by decide +kernel
theorem mw_301 : Cond.fieldLink RX8 89 "ThatchNextModel" "at" "I" ∈ wsL_law := List.mem_of_getElem? (i := 301) (by decide +kernel)
theorem dX8_nextToken_8 : decode cX8_nextToken 8 = .ok (.aload_n 0, 1) := by decide +kernel
theorem dX8_nextToken_9 : decode cX8_nextToken 9 = .ok (.aload_n 0, 1) := by decide +kernel
theorem dX8_nextToken_10 : decode cX8_nextToken 10 = .ok (.getfield 89, 3) := by decide +kernel
theorem dX8_nextToken_13 : decode cX8_nextToken 13 = .ok (.invokevirtual 95, 3) := by decide +kernel
theorem hd_yX8_see : HD yX8_see RX8 1 := by decide +kernel
theorem mw_303 : Cond.methodLink RX8 95 yX8_see ∈ wsL_law := List.mem_of_getElem? (i := 303) (by decide +kernel)
theorem mw_304 : Cond.instanceMethod yX8_see ∈ wsL_law := List.mem_of_getElem? (i := 304) (by decide +kernel)
theorem mw_305 : Cond.selects RX8 yX8_see yX8_see ∈ wsL_law := List.mem_of_getElem? (i := 305) (by decide +kernel)
theorem mw_306 : Cond.code yX8_see cX8_see 2 (some .int) ∈ wsL_law := List.mem_of_getElem? (i := 306) (by decide +kernel)
theorem dX8_nextToken_16 : decode cX8_nextToken 16 = .ok (.bipush 10, 2) := by decide +kernel
theorem dX8_nextToken_18 : decode cX8_nextToken 18 = .ok (.if_icmp .eq 16, 3) := by decide +kernel
theorem dX8_nextToken_21 : decode cX8_nextToken 21 = .ok (.aload_n 0, 1) := by decide +kernel
theorem dX8_nextToken_22 : decode cX8_nextToken 22 = .ok (.aload_n 0, 1) := by decide +kernel
theorem dX8_nextToken_23 : decode cX8_nextToken 23 = .ok (.getfield 89, 3) := by decide +kernel
theorem dX8_nextToken_26 : decode cX8_nextToken 26 = .ok (.invokevirtual 95, 3) := by decide +kernel
theorem dX8_nextToken_29 : decode cX8_nextToken 29 = .ok (.bipush 32, 2) := by decide +kernel
theorem dX8_nextToken_31 : decode cX8_nextToken 31 = .ok (.if_icmp .ne 16, 3) := by decide +kernel
theorem dX8_nextToken_47 : decode cX8_nextToken 47 = .ok (.aload_n 0, 1) := by decide +kernel
theorem dX8_nextToken_48 : decode cX8_nextToken 48 = .ok (.aload_n 0, 1) := by decide +kernel
theorem dX8_nextToken_49 : decode cX8_nextToken 49 = .ok (.getfield 89, 3) := by decide +kernel
theorem dX8_nextToken_52 : decode cX8_nextToken 52 = .ok (.putfield 92, 3) := by decide +kernel
theorem dX8_nextToken_55 : decode cX8_nextToken 55 = .ok (.aload_n 0, 1) := by decide +kernel
theorem dX8_nextToken_56 : decode cX8_nextToken 56 = .ok (.getfield 89, 3) := by decide +kernel
theorem dX8_nextToken_59 : decode cX8_nextToken 59 = .ok (.aload_n 0, 1) := by decide +kernel
theorem dX8_nextToken_60 : decode cX8_nextToken 60 = .ok (.getfield 74, 3) := by decide +kernel
theorem dX8_nextToken_63 : decode cX8_nextToken 63 = .ok (.if_icmp .lt 12, 3) := by decide +kernel
theorem dX8_nextToken_66 : decode cX8_nextToken 66 = .ok (.aload_n 0, 1) := by decide +kernel
theorem dX8_nextToken_67 : decode cX8_nextToken 67 = .ok (.bipush 13, 2) := by decide +kernel
theorem dX8_nextToken_69 : decode cX8_nextToken 69 = .ok (.putfield 99, 3) := by decide +kernel
theorem mw_290 : Cond.fieldLink RX8 99 "ThatchNextModel" "kind" "I" ∈ wsL_law := List.mem_of_getElem? (i := 290) (by decide +kernel)
theorem dX8_nextToken_72 : decode cX8_nextToken 72 = .ok (.goto 198, 3) := by decide +kernel
theorem dX8_nextToken_270 : decode cX8_nextToken 270 = .ok (.return_, 1) := by decide +kernel
theorem dX8_laysPast_0 : decode cX8_laysPast 0 = .ok (.aload_n 0, 1) := by decide +kernel
theorem dX8_laysPast_1 : decode cX8_laysPast 1 = .ok (.getfield 20, 3) := by decide +kernel
theorem mw_93 : Cond.fieldLink RX8 20 "ThatchNextModel" "hasImage" "[Z" ∈ wsL_law := List.mem_of_getElem? (i := 93) (by decide +kernel)
theorem dX8_laysPast_4 : decode cX8_laysPast 4 = .ok (.iconst 0, 1) := by decide +kernel
theorem dX8_laysPast_5 : decode cX8_laysPast 5 = .ok (.baload, 1) := by decide +kernel
theorem dX8_laysPast_6 : decode cX8_laysPast 6 = .ok (.ifCond .eq 21, 3) := by decide +kernel
theorem dX8_laysPast_27 : decode cX8_laysPast 27 = .ok (.bipush (-5), 2) := by decide +kernel
theorem dX8_laysPast_29 : decode cX8_laysPast 29 = .ok (.ireturn, 1) := by decide +kernel
theorem lshr_0 (y : Int32) : (0 : Int64) >>> (y.toInt64 &&& 63) = 0 := by first | simp | (apply Int64.toBitVec_inj.mp; simp)
set_option maxHeartbeats 4000000 in
set_option maxRecDepth 100000 in
theorem c_M_within (l : Launch) (D : va_G) (k : Nat → ClassId) (x : Int32) (lo : Int64) (hi : Int64) : Met l yX8_within (Cond.code yX8_within cX8_within 6 (some .boolean) :: wsL_law) ({ frames := 0, cells := 0, slots := 0, locals := 0 } : Room) (va_Pc [.long x.toInt64, .long lo, .long hi] (pr D k [])) (vp_Si (fun rr => rr = if lo.toInt ≤ x.toInt ∧ x.toInt ≤ hi.toInt then 1 else 0)) 0 0 (fun _ => False) := by
  refine Met.ofW (cc := cX8_within) (maxL := 6) (ret := (some .boolean)) (by decide) rfl ?_
  intro p e s m args below meth c s₁ B hml hv
  obtain ⟨rfl, hP, hK⟩ := hv
  have hx := B.exec
  have hb := B.bytes
  have hr := B.returns
  have hts : ∀ w ∈ wsL_law, w.before _ s = true := fun w h => atoms_spec (ws := Cond.code yX8_within cX8_within 6 (some .boolean) :: wsL_law) B.pre w (List.mem_cons_of_mem _ h)
  have hown : s.vm.findClass RX8 = some m.cls := findClass_of_methodNamed B.named
  have hlocks := B.notSynchronized
  have hP : va_P D vwCl [] s.heap := hP
  have hl := lv_entry ([.long x.toInt64, .long lo, .long hi]) (n := 6) (Nat.le_of_ble_eq_true rfl)
  rw [lg_entry_eq]
  generalize (lg_sl ([.long x.toInt64, .long lo, .long hi]) ++ List.replicate (6 - (lg_sl ([.long x.toInt64, .long lo, .long hi])).length) Slot.unset).toArray = ls at hl ⊢
  have hl : lv_has ls 6 [(0, .long x.toInt64), (2, .long lo), (4, .long hi)] := hl
  refine lv_lload_n hx hb dX8_within_0 rfl (lv_at hl 0 rfl) ?_
  refine lv_lload_n hx hb dX8_within_1 rfl (lv_at hl 1 rfl) ?_
  refine W.lcmp hx hb dX8_within_2 ?_
  rcases lg3 x.toInt64 lo with ⟨h_1, eh_1⟩ | ⟨h_1, eh_1⟩ | ⟨h_1, eh_1⟩
  · have h_1 : x.toInt < lo.toInt := by have q := Int32.toInt_toInt64 x; rw [← q]; exact h_1
    refine lv_ni (v := (-1)) eh_1 ?_
    refine lv_if_lt (tgt := 17) hx hb dX8_within_3 (by decide) (fun _ => ?_) (fun c9 => absurd c9 (by decide))
    refine lv_iconst (v := 0) hx hb dX8_within_17 (by decide) ?_
    exact W.zret (v := 0) hx hb hr rfl (fun t ht hW => ⟨0, rfl, (by (repeat' split) <;> first | rfl | (exfalso; omega)), ht⟩) (fun q h => by cases h) dX8_within_18
  · have h_1 : x.toInt = lo.toInt := by have q := Int32.toInt_toInt64 x; rw [← q]; exact h_1
    refine lv_ni (v := 0) eh_1 ?_
    refine lv_if_lt (tgt := 17) hx hb dX8_within_3 (by decide) (fun c9 => absurd c9 (by decide)) (fun _ => ?_)
    refine lv_lload_n hx hb dX8_within_6 rfl (lv_at hl 0 rfl) ?_
    refine lv_lload hx hb dX8_within_7 (lv_at hl 2 rfl) ?_
    refine W.lcmp hx hb dX8_within_9 ?_
    rcases lg3 x.toInt64 hi with ⟨h_2, eh_2⟩ | ⟨h_2, eh_2⟩ | ⟨h_2, eh_2⟩
    · have h_2 : x.toInt < hi.toInt := by have q := Int32.toInt_toInt64 x; rw [← q]; exact h_2
      refine lv_ni (v := (-1)) eh_2 ?_
      refine lv_if_gt (tgt := 17) hx hb dX8_within_10 (by decide) (fun c9 => absurd c9 (by decide)) (fun _ => ?_)
      refine lv_iconst (v := 1) hx hb dX8_within_13 (by decide) ?_
      refine lv_goto (tgt := 18) hx hb dX8_within_14 (by decide) ?_
      exact W.zret (v := 1) hx hb hr rfl (fun t ht hW => ⟨1, rfl, (by (repeat' split) <;> first | rfl | (exfalso; omega)), ht⟩) (fun q h => by cases h) dX8_within_18
    · have h_2 : x.toInt = hi.toInt := by have q := Int32.toInt_toInt64 x; rw [← q]; exact h_2
      refine lv_ni (v := 0) eh_2 ?_
      refine lv_if_gt (tgt := 17) hx hb dX8_within_10 (by decide) (fun c9 => absurd c9 (by decide)) (fun _ => ?_)
      refine lv_iconst (v := 1) hx hb dX8_within_13 (by decide) ?_
      refine lv_goto (tgt := 18) hx hb dX8_within_14 (by decide) ?_
      exact W.zret (v := 1) hx hb hr rfl (fun t ht hW => ⟨1, rfl, (by (repeat' split) <;> first | rfl | (exfalso; omega)), ht⟩) (fun q h => by cases h) dX8_within_18
    · have h_2 : x.toInt > hi.toInt := by have q := Int32.toInt_toInt64 x; rw [← q]; exact h_2
      refine lv_ni (v := 1) eh_2 ?_
      refine lv_if_gt (tgt := 17) hx hb dX8_within_10 (by decide) (fun _ => ?_) (fun c9 => absurd c9 (by decide))
      refine lv_iconst (v := 0) hx hb dX8_within_17 (by decide) ?_
      exact W.zret (v := 0) hx hb hr rfl (fun t ht hW => ⟨0, rfl, (by (repeat' split) <;> first | rfl | (exfalso; omega)), ht⟩) (fun q h => by cases h) dX8_within_18
  · have h_1 : x.toInt > lo.toInt := by have q := Int32.toInt_toInt64 x; rw [← q]; exact h_1
    refine lv_ni (v := 1) eh_1 ?_
    refine lv_if_lt (tgt := 17) hx hb dX8_within_3 (by decide) (fun c9 => absurd c9 (by decide)) (fun _ => ?_)
    refine lv_lload_n hx hb dX8_within_6 rfl (lv_at hl 0 rfl) ?_
    refine lv_lload hx hb dX8_within_7 (lv_at hl 2 rfl) ?_
    refine W.lcmp hx hb dX8_within_9 ?_
    rcases lg3 x.toInt64 hi with ⟨h_3, eh_3⟩ | ⟨h_3, eh_3⟩ | ⟨h_3, eh_3⟩
    · have h_3 : x.toInt < hi.toInt := by have q := Int32.toInt_toInt64 x; rw [← q]; exact h_3
      refine lv_ni (v := (-1)) eh_3 ?_
      refine lv_if_gt (tgt := 17) hx hb dX8_within_10 (by decide) (fun c9 => absurd c9 (by decide)) (fun _ => ?_)
      refine lv_iconst (v := 1) hx hb dX8_within_13 (by decide) ?_
      refine lv_goto (tgt := 18) hx hb dX8_within_14 (by decide) ?_
      exact W.zret (v := 1) hx hb hr rfl (fun t ht hW => ⟨1, rfl, (by (repeat' split) <;> first | rfl | (exfalso; omega)), ht⟩) (fun q h => by cases h) dX8_within_18
    · have h_3 : x.toInt = hi.toInt := by have q := Int32.toInt_toInt64 x; rw [← q]; exact h_3
      refine lv_ni (v := 0) eh_3 ?_
      refine lv_if_gt (tgt := 17) hx hb dX8_within_10 (by decide) (fun c9 => absurd c9 (by decide)) (fun _ => ?_)
      refine lv_iconst (v := 1) hx hb dX8_within_13 (by decide) ?_
      refine lv_goto (tgt := 18) hx hb dX8_within_14 (by decide) ?_
      exact W.zret (v := 1) hx hb hr rfl (fun t ht hW => ⟨1, rfl, (by (repeat' split) <;> first | rfl | (exfalso; omega)), ht⟩) (fun q h => by cases h) dX8_within_18
    · have h_3 : x.toInt > hi.toInt := by have q := Int32.toInt_toInt64 x; rw [← q]; exact h_3
      refine lv_ni (v := 1) eh_3 ?_
      refine lv_if_gt (tgt := 17) hx hb dX8_within_10 (by decide) (fun _ => ?_) (fun c9 => absurd c9 (by decide))
      refine lv_iconst (v := 0) hx hb dX8_within_17 (by decide) ?_
      exact W.zret (v := 0) hx hb hr rfl (fun t ht hW => ⟨0, rfl, (by (repeat' split) <;> first | rfl | (exfalso; omega)), ht⟩) (fun q h => by cases h) dX8_within_18
set_option maxHeartbeats 4000000 in
set_option maxRecDepth 100000 in
theorem c_M_plain409 (l : Launch) (D : va_G) (k : Nat → ClassId) (q : Nat) (sz : Nat) : Met l yX8_plain (Cond.code yX8_plain cX8_plain 2 none :: wsL_law) ({ frames := 0, cells := 0, slots := 0, locals := 0 } : Room) (va_Pc [.ref q] (pu D k sz [(q, .inl (k 0, 409, .inl (fun _ => 0)))])) (va_Qv (fun uu : Nat → Int32 => uu 0 = 0 ∧ uu 1 = 0 ∧ uu 2 = 3 ∧ uu 3 = 8 ∧ uu 4 = 4 ∧ uu 5 = 4 ∧ uu 6 = 0 ∧ uu 7 = 0) (qu D (va_A [(q, .inl (k 0, 409, .inl (fun _ => 0)))] sz) (fun uu : Nat → Int32 => [(q, .inl (k 0, 409, .inl uu))])) (va_A [(q, .inl (k 0, 409, .inl (fun _ => 0)))] sz)) 0 0 (va_A [(q, .inl (k 0, 409, .inl (fun _ => 0)))] sz) := by
  refine Met.ofW (cc := cX8_plain) (maxL := 2) (ret := none) (by decide) rfl ?_
  intro p e s m args below meth c s₁ B hml hv
  obtain ⟨rfl, hsz, hP, hK, hD0⟩ := hv
  have hx := B.exec
  have hb := B.bytes
  have hr := B.returns
  have hts : ∀ w ∈ wsL_law, w.before _ s = true := fun w h => atoms_spec (ws := Cond.code yX8_plain cX8_plain 2 none :: wsL_law) B.pre w (List.mem_cons_of_mem _ h)
  have hown : s.vm.findClass RX8 = some m.cls := findClass_of_methodNamed B.named
  have hlocks := B.notSynchronized
  subst hsz
  have hD := hD0.self (sz := s.heap.size)
  generalize hAe : va_A [(q, .inl (k 0, 409, .inl (fun _ => 0)))] s.heap.size = A at hD ⊢
  have hA : ∀ q : Nat, s.heap.size ≤ q → A q := fun q h => by rw [← hAe]; exact Or.inr h
  have hS : va_S A s.heap s.heap [] := va_S.rf
  have hP : va_P D vwCl [(q, .inl (k 0, 409, .inl (fun _ => 0)))] s.heap := hP
  have hl := lv_entry ([.ref q]) (n := 2) (Nat.le_of_ble_eq_true rfl)
  rw [lg_entry_eq]
  generalize (lg_sl ([.ref q]) ++ List.replicate (2 - (lg_sl ([.ref q])).length) Slot.unset).toArray = ls at hl ⊢
  have hl : lv_has ls 2 [(0, .ref q)] := hl
  refine lv_iconst (v := 0) hx hb dX8_plain_0 (by decide) ?_
  refine lv_istore_n (lv' := [(1, .int 0), (0, .ref q)]) hx hb dX8_plain_1 rfl hl (by decide) rfl (fun ls hl => ?_)
  refine W_loop (σ := Int32) (fun xx H locs ls => (0 ≤ xx.toInt ∧ xx.toInt ≤ 409) ∧ va_P D vwCl [(q, .inl (k 0, 409, .inl (fun _ => 0)))] H ∧ va_D A [(q, .inl (k 0, 409, .inl (fun _ => 0)))] ∧ va_S A s.heap H locs ∧ lv_has ls 2 [(1, .int xx), (0, .ref q)]) (fun xx => (409 - xx.toInt).toNat) ?_ (0) _ _ ls ⟨(show 0 ≤ (0 : Int32).toInt ∧ (0 : Int32).toInt ≤ 409 from ⟨by decide, by decide⟩), hP.sub [0] rfl, hD.sub [0] (by decide) rfl, hS, lv_sub hl [0, 1] rfl⟩
  intro xx H locs ls hI ih
  obtain ⟨i_1, rfl⟩ : ∃ z, z = xx := ⟨_, rfl⟩
  obtain ⟨h_2, hP, hD, hS, hl⟩ := hI
  have h_2 : 0 ≤ i_1.toInt ∧ i_1.toInt ≤ 409 := h_2
  obtain ⟨h_2a, h_2b⟩ := h_2
  have hP : va_P D vwCl [(q, .inl (k 0, 409, .inl (fun _ => 0)))] H := hP
  have hD : va_D A [(q, .inl (k 0, 409, .inl (fun _ => 0)))] := hD
  have hl : lv_has ls 2 [(1, .int i_1), (0, .ref q)] := hl
  refine lv_iload_n hx hb dX8_plain_2 rfl (lv_at hl 0 rfl) ?_
  refine lv_sipush (v := 409) hx hb dX8_plain_3 (by decide) ?_
  refine lv_icmp_ge (tgt := 19) hx hb dX8_plain_6 (by decide) (fun c_3 => ?_) (fun c_3 => ?_)
  · have c_3 : 409 ≤ i_1.toInt := ti_le c_3
    have qc_3 : i_1 = 409 := ti_of (show i_1.toInt = 409 from by omega)
    refine lv_aload_n hx hb dX8_plain_19 rfl (lv_at hl 1 rfl) ?_
    refine lv_iconst (v := 2) hx hb dX8_plain_20 (by decide) ?_
    refine lv_iconst (v := 3) hx hb dX8_plain_21 (by decide) ?_
    refine va_iast hx hb hK hP hD hS 0 0 rfl rfl (vp_in_c (by decide)) dX8_plain_22 (fun H locs hP hD hS => ?_)
    have hP : va_P D vwCl [(q, .inl (k 0, 409, .inl (upd (fun _ => 0) (2 : Int32).toNatClampNeg 3)))] H := hP
    have hD : va_D A [(q, .inl (k 0, 409, .inl (upd (fun _ => 0) (2 : Int32).toNatClampNeg 3)))] := hD
    generalize ef_4 : (upd (fun _ => 0) (2 : Int32).toNatClampNeg 3) = f_4 at hP hD
    have hf_4_0 : f_4 0 = 0 := by rw [← ef_4]; rfl
    have hf_4_1 : f_4 1 = 0 := by rw [← ef_4]; rfl
    have hf_4_2 : f_4 2 = 3 := by rw [← ef_4]; rfl
    have hf_4_3 : f_4 3 = 0 := by rw [← ef_4]; rfl
    have hf_4_4 : f_4 4 = 0 := by rw [← ef_4]; rfl
    have hf_4_5 : f_4 5 = 0 := by rw [← ef_4]; rfl
    have hf_4_6 : f_4 6 = 0 := by rw [← ef_4]; rfl
    have hf_4_7 : f_4 7 = 0 := by rw [← ef_4]; rfl
    have hf_4_8 : f_4 8 = 0 := by rw [← ef_4]; rfl
    refine lv_aload_n hx hb dX8_plain_23 rfl (lv_at hl 1 rfl) ?_
    refine lv_iconst (v := 3) hx hb dX8_plain_24 (by decide) ?_
    refine lv_bipush (v := 8) hx hb dX8_plain_25 (by decide) ?_
    refine va_iast hx hb hK hP hD hS 0 0 rfl rfl (vp_in_c (by decide)) dX8_plain_27 (fun H locs hP hD hS => ?_)
    have hP : va_P D vwCl [(q, .inl (k 0, 409, .inl (upd f_4 (3 : Int32).toNatClampNeg 8)))] H := hP
    have hD : va_D A [(q, .inl (k 0, 409, .inl (upd f_4 (3 : Int32).toNatClampNeg 8)))] := hD
    generalize ef_5 : (upd f_4 (3 : Int32).toNatClampNeg 8) = f_5 at hP hD
    have hf_5_0 : f_5 0 = 0 := by rw [← ef_5]; exact (pk_un (by decide)).trans hf_4_0
    have hf_5_1 : f_5 1 = 0 := by rw [← ef_5]; exact (pk_un (by decide)).trans hf_4_1
    have hf_5_2 : f_5 2 = 3 := by rw [← ef_5]; exact (pk_un (by decide)).trans hf_4_2
    have hf_5_3 : f_5 3 = 8 := by rw [← ef_5]; exact pk_us
    have hf_5_4 : f_5 4 = 0 := by rw [← ef_5]; exact (pk_un (by decide)).trans hf_4_4
    have hf_5_5 : f_5 5 = 0 := by rw [← ef_5]; exact (pk_un (by decide)).trans hf_4_5
    have hf_5_6 : f_5 6 = 0 := by rw [← ef_5]; exact (pk_un (by decide)).trans hf_4_6
    have hf_5_7 : f_5 7 = 0 := by rw [← ef_5]; exact (pk_un (by decide)).trans hf_4_7
    have hf_5_8 : f_5 8 = 0 := by rw [← ef_5]; exact (pk_un (by decide)).trans hf_4_8
    refine lv_aload_n hx hb dX8_plain_28 rfl (lv_at hl 1 rfl) ?_
    refine lv_iconst (v := 4) hx hb dX8_plain_29 (by decide) ?_
    refine lv_iconst (v := 4) hx hb dX8_plain_30 (by decide) ?_
    refine va_iast hx hb hK hP hD hS 0 0 rfl rfl (vp_in_c (by decide)) dX8_plain_31 (fun H locs hP hD hS => ?_)
    have hP : va_P D vwCl [(q, .inl (k 0, 409, .inl (upd f_5 (4 : Int32).toNatClampNeg 4)))] H := hP
    have hD : va_D A [(q, .inl (k 0, 409, .inl (upd f_5 (4 : Int32).toNatClampNeg 4)))] := hD
    generalize ef_6 : (upd f_5 (4 : Int32).toNatClampNeg 4) = f_6 at hP hD
    have hf_6_0 : f_6 0 = 0 := by rw [← ef_6]; exact (pk_un (by decide)).trans hf_5_0
    have hf_6_1 : f_6 1 = 0 := by rw [← ef_6]; exact (pk_un (by decide)).trans hf_5_1
    have hf_6_2 : f_6 2 = 3 := by rw [← ef_6]; exact (pk_un (by decide)).trans hf_5_2
    have hf_6_3 : f_6 3 = 8 := by rw [← ef_6]; exact (pk_un (by decide)).trans hf_5_3
    have hf_6_4 : f_6 4 = 4 := by rw [← ef_6]; exact pk_us
    have hf_6_5 : f_6 5 = 0 := by rw [← ef_6]; exact (pk_un (by decide)).trans hf_5_5
    have hf_6_6 : f_6 6 = 0 := by rw [← ef_6]; exact (pk_un (by decide)).trans hf_5_6
    have hf_6_7 : f_6 7 = 0 := by rw [← ef_6]; exact (pk_un (by decide)).trans hf_5_7
    have hf_6_8 : f_6 8 = 0 := by rw [← ef_6]; exact (pk_un (by decide)).trans hf_5_8
    refine lv_aload_n hx hb dX8_plain_32 rfl (lv_at hl 1 rfl) ?_
    refine lv_iconst (v := 5) hx hb dX8_plain_33 (by decide) ?_
    refine lv_iconst (v := 4) hx hb dX8_plain_34 (by decide) ?_
    refine va_iast hx hb hK hP hD hS 0 0 rfl rfl (vp_in_c (by decide)) dX8_plain_35 (fun H locs hP hD hS => ?_)
    have hP : va_P D vwCl [(q, .inl (k 0, 409, .inl (upd f_6 (5 : Int32).toNatClampNeg 4)))] H := hP
    have hD : va_D A [(q, .inl (k 0, 409, .inl (upd f_6 (5 : Int32).toNatClampNeg 4)))] := hD
    generalize ef_7 : (upd f_6 (5 : Int32).toNatClampNeg 4) = f_7 at hP hD
    have hf_7_0 : f_7 0 = 0 := by rw [← ef_7]; exact (pk_un (by decide)).trans hf_6_0
    have hf_7_1 : f_7 1 = 0 := by rw [← ef_7]; exact (pk_un (by decide)).trans hf_6_1
    have hf_7_2 : f_7 2 = 3 := by rw [← ef_7]; exact (pk_un (by decide)).trans hf_6_2
    have hf_7_3 : f_7 3 = 8 := by rw [← ef_7]; exact (pk_un (by decide)).trans hf_6_3
    have hf_7_4 : f_7 4 = 4 := by rw [← ef_7]; exact (pk_un (by decide)).trans hf_6_4
    have hf_7_5 : f_7 5 = 4 := by rw [← ef_7]; exact pk_us
    have hf_7_6 : f_7 6 = 0 := by rw [← ef_7]; exact (pk_un (by decide)).trans hf_6_6
    have hf_7_7 : f_7 7 = 0 := by rw [← ef_7]; exact (pk_un (by decide)).trans hf_6_7
    have hf_7_8 : f_7 8 = 0 := by rw [← ef_7]; exact (pk_un (by decide)).trans hf_6_8
    have hP9 := hP.sub (ws' := [(q, .inl (k 0, 409, .inl f_7))]) [0] rfl
    have hD9 := hD.sub (ws' := [(q, .inl (k 0, 409, .inl f_7))]) [0] (by decide) rfl
    exact W.vret hx hb hr (fun t ht hW => ⟨⟨(f_7), rfl, ⟨hf_7_0, hf_7_1, hf_7_2, hf_7_3, hf_7_4, hf_7_5, hf_7_6, hf_7_7⟩, by rw [ht]; exact hP9, hD9⟩, hS.F ht⟩) hS.2.2 dX8_plain_36
  · have c_3 : i_1.toInt < 409 := ti_nle c_3
    refine lv_aload_n hx hb dX8_plain_9 rfl (lv_at hl 1 rfl) ?_
    refine lv_iload_n hx hb dX8_plain_10 rfl (lv_at hl 0 rfl) ?_
    refine lv_iconst (v := 0) hx hb dX8_plain_11 (by decide) ?_
    refine va_iast hx hb hK hP hD hS 0 0 rfl rfl (vp_in_o (by omega) (by omega)) dX8_plain_12 (fun H locs hP hD hS => ?_)
    have hP : va_P D vwCl [(q, .inl (k 0, 409, .inl (upd (fun _ => 0) i_1.toNatClampNeg 0)))] H := hP
    have hD : va_D A [(q, .inl (k 0, 409, .inl (upd (fun _ => 0) i_1.toNatClampNeg 0)))] := hD
    rw [upd0] at hP hD
    obtain ⟨z_8, ez_8⟩ : ∃ y : Int32, y = i_1 + 1 := ⟨_, rfl⟩
    have tz_8 : z_8.toInt = i_1.toInt + 1 := by rw [ez_8]; exact ti_addc (by decide) (by omega) (by omega)
    refine lv_iinc (v := z_8) (lv' := [(1, .int z_8), (0, .ref q)]) hx hb dX8_plain_13 hl (k := 0) rfl (ez_8.symm) (by decide) rfl (fun ls hl => ?_)
    refine lv_goto (tgt := 2) hx hb dX8_plain_16 (by decide) ?_
    exact ih (z_8) _ _ ls (by show (409 - z_8.toInt).toNat < (409 - i_1.toInt).toNat; omega) ⟨(show 0 ≤ z_8.toInt ∧ z_8.toInt ≤ 409 from ⟨by omega, by omega⟩), hP.sub [0] rfl, hD.sub [0] (by decide) rfl, hS, lv_sub hl [0, 1] rfl⟩
set_option maxHeartbeats 4000000 in
set_option maxRecDepth 100000 in
theorem c_M_plain1227 (l : Launch) (D : va_G) (k : Nat → ClassId) (q : Nat) (sz : Nat) : Met l yX8_plain (Cond.code yX8_plain cX8_plain 2 none :: wsL_law) ({ frames := 0, cells := 0, slots := 0, locals := 0 } : Room) (va_Pc [.ref q] (pu D k sz [(q, .inl (k 0, 1227, .inl (fun _ => 0)))])) (va_Qv (fun uu : Nat → Int32 => uu 0 = 0 ∧ uu 1 = 0 ∧ uu 2 = 3 ∧ uu 3 = 8 ∧ uu 4 = 4 ∧ uu 5 = 4 ∧ uu 6 = 0 ∧ uu 7 = 0) (qu D (va_A [(q, .inl (k 0, 1227, .inl (fun _ => 0)))] sz) (fun uu : Nat → Int32 => [(q, .inl (k 0, 1227, .inl uu))])) (va_A [(q, .inl (k 0, 1227, .inl (fun _ => 0)))] sz)) 0 0 (va_A [(q, .inl (k 0, 1227, .inl (fun _ => 0)))] sz) := by
  refine Met.ofW (cc := cX8_plain) (maxL := 2) (ret := none) (by decide) rfl ?_
  intro p e s m args below meth c s₁ B hml hv
  obtain ⟨rfl, hsz, hP, hK, hD0⟩ := hv
  have hx := B.exec
  have hb := B.bytes
  have hr := B.returns
  have hts : ∀ w ∈ wsL_law, w.before _ s = true := fun w h => atoms_spec (ws := Cond.code yX8_plain cX8_plain 2 none :: wsL_law) B.pre w (List.mem_cons_of_mem _ h)
  have hown : s.vm.findClass RX8 = some m.cls := findClass_of_methodNamed B.named
  have hlocks := B.notSynchronized
  subst hsz
  have hD := hD0.self (sz := s.heap.size)
  generalize hAe : va_A [(q, .inl (k 0, 1227, .inl (fun _ => 0)))] s.heap.size = A at hD ⊢
  have hA : ∀ q : Nat, s.heap.size ≤ q → A q := fun q h => by rw [← hAe]; exact Or.inr h
  have hS : va_S A s.heap s.heap [] := va_S.rf
  have hP : va_P D vwCl [(q, .inl (k 0, 1227, .inl (fun _ => 0)))] s.heap := hP
  have hl := lv_entry ([.ref q]) (n := 2) (Nat.le_of_ble_eq_true rfl)
  rw [lg_entry_eq]
  generalize (lg_sl ([.ref q]) ++ List.replicate (2 - (lg_sl ([.ref q])).length) Slot.unset).toArray = ls at hl ⊢
  have hl : lv_has ls 2 [(0, .ref q)] := hl
  refine lv_iconst (v := 0) hx hb dX8_plain_0 (by decide) ?_
  refine lv_istore_n (lv' := [(1, .int 0), (0, .ref q)]) hx hb dX8_plain_1 rfl hl (by decide) rfl (fun ls hl => ?_)
  refine W_loop (σ := Int32) (fun xx H locs ls => (0 ≤ xx.toInt ∧ xx.toInt ≤ 409) ∧ va_P D vwCl [(q, .inl (k 0, 1227, .inl (fun _ => 0)))] H ∧ va_D A [(q, .inl (k 0, 1227, .inl (fun _ => 0)))] ∧ va_S A s.heap H locs ∧ lv_has ls 2 [(1, .int xx), (0, .ref q)]) (fun xx => (409 - xx.toInt).toNat) ?_ (0) _ _ ls ⟨(show 0 ≤ (0 : Int32).toInt ∧ (0 : Int32).toInt ≤ 409 from ⟨by decide, by decide⟩), hP.sub [0] rfl, hD.sub [0] (by decide) rfl, hS, lv_sub hl [0, 1] rfl⟩
  intro xx H locs ls hI ih
  obtain ⟨i_1, rfl⟩ : ∃ z, z = xx := ⟨_, rfl⟩
  obtain ⟨h_2, hP, hD, hS, hl⟩ := hI
  have h_2 : 0 ≤ i_1.toInt ∧ i_1.toInt ≤ 409 := h_2
  obtain ⟨h_2a, h_2b⟩ := h_2
  have hP : va_P D vwCl [(q, .inl (k 0, 1227, .inl (fun _ => 0)))] H := hP
  have hD : va_D A [(q, .inl (k 0, 1227, .inl (fun _ => 0)))] := hD
  have hl : lv_has ls 2 [(1, .int i_1), (0, .ref q)] := hl
  refine lv_iload_n hx hb dX8_plain_2 rfl (lv_at hl 0 rfl) ?_
  refine lv_sipush (v := 409) hx hb dX8_plain_3 (by decide) ?_
  refine lv_icmp_ge (tgt := 19) hx hb dX8_plain_6 (by decide) (fun c_3 => ?_) (fun c_3 => ?_)
  · have c_3 : 409 ≤ i_1.toInt := ti_le c_3
    have qc_3 : i_1 = 409 := ti_of (show i_1.toInt = 409 from by omega)
    refine lv_aload_n hx hb dX8_plain_19 rfl (lv_at hl 1 rfl) ?_
    refine lv_iconst (v := 2) hx hb dX8_plain_20 (by decide) ?_
    refine lv_iconst (v := 3) hx hb dX8_plain_21 (by decide) ?_
    refine va_iast hx hb hK hP hD hS 0 0 rfl rfl (vp_in_c (by decide)) dX8_plain_22 (fun H locs hP hD hS => ?_)
    have hP : va_P D vwCl [(q, .inl (k 0, 1227, .inl (upd (fun _ => 0) (2 : Int32).toNatClampNeg 3)))] H := hP
    have hD : va_D A [(q, .inl (k 0, 1227, .inl (upd (fun _ => 0) (2 : Int32).toNatClampNeg 3)))] := hD
    generalize ef_4 : (upd (fun _ => 0) (2 : Int32).toNatClampNeg 3) = f_4 at hP hD
    have hf_4_0 : f_4 0 = 0 := by rw [← ef_4]; rfl
    have hf_4_1 : f_4 1 = 0 := by rw [← ef_4]; rfl
    have hf_4_2 : f_4 2 = 3 := by rw [← ef_4]; rfl
    have hf_4_3 : f_4 3 = 0 := by rw [← ef_4]; rfl
    have hf_4_4 : f_4 4 = 0 := by rw [← ef_4]; rfl
    have hf_4_5 : f_4 5 = 0 := by rw [← ef_4]; rfl
    have hf_4_6 : f_4 6 = 0 := by rw [← ef_4]; rfl
    have hf_4_7 : f_4 7 = 0 := by rw [← ef_4]; rfl
    have hf_4_8 : f_4 8 = 0 := by rw [← ef_4]; rfl
    refine lv_aload_n hx hb dX8_plain_23 rfl (lv_at hl 1 rfl) ?_
    refine lv_iconst (v := 3) hx hb dX8_plain_24 (by decide) ?_
    refine lv_bipush (v := 8) hx hb dX8_plain_25 (by decide) ?_
    refine va_iast hx hb hK hP hD hS 0 0 rfl rfl (vp_in_c (by decide)) dX8_plain_27 (fun H locs hP hD hS => ?_)
    have hP : va_P D vwCl [(q, .inl (k 0, 1227, .inl (upd f_4 (3 : Int32).toNatClampNeg 8)))] H := hP
    have hD : va_D A [(q, .inl (k 0, 1227, .inl (upd f_4 (3 : Int32).toNatClampNeg 8)))] := hD
    generalize ef_5 : (upd f_4 (3 : Int32).toNatClampNeg 8) = f_5 at hP hD
    have hf_5_0 : f_5 0 = 0 := by rw [← ef_5]; exact (pk_un (by decide)).trans hf_4_0
    have hf_5_1 : f_5 1 = 0 := by rw [← ef_5]; exact (pk_un (by decide)).trans hf_4_1
    have hf_5_2 : f_5 2 = 3 := by rw [← ef_5]; exact (pk_un (by decide)).trans hf_4_2
    have hf_5_3 : f_5 3 = 8 := by rw [← ef_5]; exact pk_us
    have hf_5_4 : f_5 4 = 0 := by rw [← ef_5]; exact (pk_un (by decide)).trans hf_4_4
    have hf_5_5 : f_5 5 = 0 := by rw [← ef_5]; exact (pk_un (by decide)).trans hf_4_5
    have hf_5_6 : f_5 6 = 0 := by rw [← ef_5]; exact (pk_un (by decide)).trans hf_4_6
    have hf_5_7 : f_5 7 = 0 := by rw [← ef_5]; exact (pk_un (by decide)).trans hf_4_7
    have hf_5_8 : f_5 8 = 0 := by rw [← ef_5]; exact (pk_un (by decide)).trans hf_4_8
    refine lv_aload_n hx hb dX8_plain_28 rfl (lv_at hl 1 rfl) ?_
    refine lv_iconst (v := 4) hx hb dX8_plain_29 (by decide) ?_
    refine lv_iconst (v := 4) hx hb dX8_plain_30 (by decide) ?_
    refine va_iast hx hb hK hP hD hS 0 0 rfl rfl (vp_in_c (by decide)) dX8_plain_31 (fun H locs hP hD hS => ?_)
    have hP : va_P D vwCl [(q, .inl (k 0, 1227, .inl (upd f_5 (4 : Int32).toNatClampNeg 4)))] H := hP
    have hD : va_D A [(q, .inl (k 0, 1227, .inl (upd f_5 (4 : Int32).toNatClampNeg 4)))] := hD
    generalize ef_6 : (upd f_5 (4 : Int32).toNatClampNeg 4) = f_6 at hP hD
    have hf_6_0 : f_6 0 = 0 := by rw [← ef_6]; exact (pk_un (by decide)).trans hf_5_0
    have hf_6_1 : f_6 1 = 0 := by rw [← ef_6]; exact (pk_un (by decide)).trans hf_5_1
    have hf_6_2 : f_6 2 = 3 := by rw [← ef_6]; exact (pk_un (by decide)).trans hf_5_2
    have hf_6_3 : f_6 3 = 8 := by rw [← ef_6]; exact (pk_un (by decide)).trans hf_5_3
    have hf_6_4 : f_6 4 = 4 := by rw [← ef_6]; exact pk_us
    have hf_6_5 : f_6 5 = 0 := by rw [← ef_6]; exact (pk_un (by decide)).trans hf_5_5
    have hf_6_6 : f_6 6 = 0 := by rw [← ef_6]; exact (pk_un (by decide)).trans hf_5_6
    have hf_6_7 : f_6 7 = 0 := by rw [← ef_6]; exact (pk_un (by decide)).trans hf_5_7
    have hf_6_8 : f_6 8 = 0 := by rw [← ef_6]; exact (pk_un (by decide)).trans hf_5_8
    refine lv_aload_n hx hb dX8_plain_32 rfl (lv_at hl 1 rfl) ?_
    refine lv_iconst (v := 5) hx hb dX8_plain_33 (by decide) ?_
    refine lv_iconst (v := 4) hx hb dX8_plain_34 (by decide) ?_
    refine va_iast hx hb hK hP hD hS 0 0 rfl rfl (vp_in_c (by decide)) dX8_plain_35 (fun H locs hP hD hS => ?_)
    have hP : va_P D vwCl [(q, .inl (k 0, 1227, .inl (upd f_6 (5 : Int32).toNatClampNeg 4)))] H := hP
    have hD : va_D A [(q, .inl (k 0, 1227, .inl (upd f_6 (5 : Int32).toNatClampNeg 4)))] := hD
    generalize ef_7 : (upd f_6 (5 : Int32).toNatClampNeg 4) = f_7 at hP hD
    have hf_7_0 : f_7 0 = 0 := by rw [← ef_7]; exact (pk_un (by decide)).trans hf_6_0
    have hf_7_1 : f_7 1 = 0 := by rw [← ef_7]; exact (pk_un (by decide)).trans hf_6_1
    have hf_7_2 : f_7 2 = 3 := by rw [← ef_7]; exact (pk_un (by decide)).trans hf_6_2
    have hf_7_3 : f_7 3 = 8 := by rw [← ef_7]; exact (pk_un (by decide)).trans hf_6_3
    have hf_7_4 : f_7 4 = 4 := by rw [← ef_7]; exact (pk_un (by decide)).trans hf_6_4
    have hf_7_5 : f_7 5 = 4 := by rw [← ef_7]; exact pk_us
    have hf_7_6 : f_7 6 = 0 := by rw [← ef_7]; exact (pk_un (by decide)).trans hf_6_6
    have hf_7_7 : f_7 7 = 0 := by rw [← ef_7]; exact (pk_un (by decide)).trans hf_6_7
    have hf_7_8 : f_7 8 = 0 := by rw [← ef_7]; exact (pk_un (by decide)).trans hf_6_8
    have hP9 := hP.sub (ws' := [(q, .inl (k 0, 1227, .inl f_7))]) [0] rfl
    have hD9 := hD.sub (ws' := [(q, .inl (k 0, 1227, .inl f_7))]) [0] (by decide) rfl
    exact W.vret hx hb hr (fun t ht hW => ⟨⟨(f_7), rfl, ⟨hf_7_0, hf_7_1, hf_7_2, hf_7_3, hf_7_4, hf_7_5, hf_7_6, hf_7_7⟩, by rw [ht]; exact hP9, hD9⟩, hS.F ht⟩) hS.2.2 dX8_plain_36
  · have c_3 : i_1.toInt < 409 := ti_nle c_3
    refine lv_aload_n hx hb dX8_plain_9 rfl (lv_at hl 1 rfl) ?_
    refine lv_iload_n hx hb dX8_plain_10 rfl (lv_at hl 0 rfl) ?_
    refine lv_iconst (v := 0) hx hb dX8_plain_11 (by decide) ?_
    refine va_iast hx hb hK hP hD hS 0 0 rfl rfl (vp_in_o (by omega) (by omega)) dX8_plain_12 (fun H locs hP hD hS => ?_)
    have hP : va_P D vwCl [(q, .inl (k 0, 1227, .inl (upd (fun _ => 0) i_1.toNatClampNeg 0)))] H := hP
    have hD : va_D A [(q, .inl (k 0, 1227, .inl (upd (fun _ => 0) i_1.toNatClampNeg 0)))] := hD
    rw [upd0] at hP hD
    obtain ⟨z_8, ez_8⟩ : ∃ y : Int32, y = i_1 + 1 := ⟨_, rfl⟩
    have tz_8 : z_8.toInt = i_1.toInt + 1 := by rw [ez_8]; exact ti_addc (by decide) (by omega) (by omega)
    refine lv_iinc (v := z_8) (lv' := [(1, .int z_8), (0, .ref q)]) hx hb dX8_plain_13 hl (k := 0) rfl (ez_8.symm) (by decide) rfl (fun ls hl => ?_)
    refine lv_goto (tgt := 2) hx hb dX8_plain_16 (by decide) ?_
    exact ih (z_8) _ _ ls (by show (409 - z_8.toInt).toNat < (409 - i_1.toInt).toNat; omega) ⟨(show 0 ≤ z_8.toInt ∧ z_8.toInt ≤ 409 from ⟨by omega, by omega⟩), hP.sub [0] rfl, hD.sub [0] (by decide) rfl, hS, lv_sub hl [0, 1] rfl⟩
set_option maxHeartbeats 4000000 in
set_option maxRecDepth 100000 in
theorem c_M_isIn0 (l : Launch) (D : va_G) (k : Nat → ClassId) (j : Int32) : Met l yX8_isIn (Cond.code yX8_isIn cX8_isIn 3 (some .boolean) :: wsL_law) ({ frames := 0, cells := 0, slots := 0, locals := 0 } : Room) (va_Pc [.long 0, .int j] (pr D k [])) (vp_Si (fun rr => rr = 0)) 0 0 (fun _ => False) := by
  refine Met.ofW (cc := cX8_isIn) (maxL := 3) (ret := (some .boolean)) (by decide) rfl ?_
  intro p e s m args below meth c s₁ B hml hv
  obtain ⟨rfl, hP, hK⟩ := hv
  have hx := B.exec
  have hb := B.bytes
  have hr := B.returns
  have hts : ∀ w ∈ wsL_law, w.before _ s = true := fun w h => atoms_spec (ws := Cond.code yX8_isIn cX8_isIn 3 (some .boolean) :: wsL_law) B.pre w (List.mem_cons_of_mem _ h)
  have hown : s.vm.findClass RX8 = some m.cls := findClass_of_methodNamed B.named
  have hlocks := B.notSynchronized
  have hP : va_P D vwCl [] s.heap := hP
  have hl := lv_entry ([.long 0, .int j]) (n := 3) (Nat.le_of_ble_eq_true rfl)
  rw [lg_entry_eq]
  generalize (lg_sl ([.long 0, .int j]) ++ List.replicate (3 - (lg_sl ([.long 0, .int j])).length) Slot.unset).toArray = ls at hl ⊢
  have hl : lv_has ls 3 [(0, .long 0), (2, .int j)] := hl
  refine lv_lload_n hx hb dX8_isIn_0 rfl (lv_at hl 0 rfl) ?_
  refine lv_iload_n hx hb dX8_isIn_1 rfl (lv_at hl 1 rfl) ?_
  refine lv_lshr (v := 0) hx hb dX8_isIn_2 (lshr_0 _) ?_
  refine lv_lconst (v := 1) hx hb dX8_isIn_3 (by decide) ?_
  refine lv_land hx hb dX8_isIn_4 ?_
  refine lv_nl (v := 0) (by decide) ?_
  refine lv_lconst (v := 1) hx hb dX8_isIn_5 (by decide) ?_
  refine W.lcmp hx hb dX8_isIn_6 ?_
  refine lv_ni (v := (-1)) (by decide) ?_
  refine lv_if_ne (tgt := 14) hx hb dX8_isIn_7 (by decide) (fun _ => ?_) (fun c9 => absurd c9 (by decide))
  refine lv_iconst (v := 0) hx hb dX8_isIn_14 (by decide) ?_
  exact W.zret (v := 0) hx hb hr rfl (fun t ht hW => ⟨0, rfl, rfl, ht⟩) (fun q h => by cases h) dX8_isIn_15
set_option maxHeartbeats 4000000 in
set_option maxRecDepth 100000 in
theorem c_M_bitsOf0 (l : Launch) (D : va_G) (k : Nat → ClassId) : Met l yX8_bitsOf (Cond.code yX8_bitsOf cX8_bitsOf 3 (some .int) :: wsL_law) ({ frames := 1, cells := 0, slots := 0, locals := 60 } : Room) (va_Pc [.int 0] (pr D k [])) (vp_Si (fun rr => rr = 0)) 0 0 (fun _ => False) := by
  refine Met.ofW (cc := cX8_bitsOf) (maxL := 3) (ret := (some .int)) (by decide) rfl ?_
  intro p e s m args below meth c s₁ B hml hv
  obtain ⟨rfl, hP, hK⟩ := hv
  have hx := B.exec
  have hb := B.bytes
  have hr := B.returns
  have hts : ∀ w ∈ wsL_law, w.before _ s = true := fun w h => atoms_spec (ws := Cond.code yX8_bitsOf cX8_bitsOf 3 (some .int) :: wsL_law) B.pre w (List.mem_cons_of_mem _ h)
  have hown : s.vm.findClass RX8 = some m.cls := findClass_of_methodNamed B.named
  have hlocks := B.notSynchronized
  have hP : va_P D vwCl [] s.heap := hP
  have hl := lv_entry ([.int 0]) (n := 3) (Nat.le_of_ble_eq_true rfl)
  rw [lg_entry_eq]
  generalize (lg_sl ([.int 0]) ++ List.replicate (3 - (lg_sl ([.int 0])).length) Slot.unset).toArray = ls at hl ⊢
  have hl : lv_has ls 3 [(0, .int 0)] := hl
  refine lv_iconst (v := 0) hx hb dX8_bitsOf_0 (by decide) ?_
  refine lv_istore_n (lv' := [(1, .int 0), (0, .int 0)]) hx hb dX8_bitsOf_1 rfl hl (by decide) rfl (fun ls hl => ?_)
  refine lv_iconst (v := 0) hx hb dX8_bitsOf_2 (by decide) ?_
  refine lv_istore_n (lv' := [(2, .int 0), (1, .int 0), (0, .int 0)]) hx hb dX8_bitsOf_3 rfl hl (by decide) rfl (fun ls hl => ?_)
  refine lv_iload_n hx hb dX8_bitsOf_4 rfl (lv_at hl 0 rfl) ?_
  refine lv_bipush (v := 10) hx hb dX8_bitsOf_5 (by decide) ?_
  refine lv_icmp_ge (tgt := 33) hx hb dX8_bitsOf_7 (by decide) (fun c9 => absurd c9 (by decide)) (fun _ => ?_)
  refine lv_iload_n hx hb dX8_bitsOf_10 rfl (lv_at hl 1 rfl) ?_
  refine lv_iload_n hx hb dX8_bitsOf_11 rfl (lv_at hl 2 rfl) ?_
  refine lv_i2l (v := 0) hx hb dX8_bitsOf_12 (by decide) ?_
  refine lv_iload_n hx hb dX8_bitsOf_13 rfl (lv_at hl 0 rfl) ?_
  refine kS_i (As := [.long 0, .int 0]) (rest := [.int 0]) (cs := []) ⟨hx, hb, hml, hown, hts⟩ (c_M_isIn0 l D k 0) (gS mw_530 mw_531 mw_5 mw_532) hd_yX8_isIn rfl rfl ⟨Nat.le_of_ble_eq_true rfl, Nat.le_of_ble_eq_true rfl⟩ hK (hP.sub (ws' := []) [] rfl) rfl hl.1 rfl (Nat.le_of_ble_eq_true rfl) dX8_bitsOf_14 ⟨Nat.le_of_ble_eq_true rfl, Nat.le_of_ble_eq_true rfl⟩ (fun r_1 hr_1 => ?_)
  obtain rfl : r_1 = 0 := hr_1
  refine lv_if_eq (tgt := 24) hx hb dX8_bitsOf_17 (by decide) (fun _ => ?_) (fun c9 => absurd c9 (by decide))
  refine lv_iconst (v := 0) hx hb dX8_bitsOf_24 (by decide) ?_
  refine lv_iadd hx hb dX8_bitsOf_25 ?_
  refine lv_ni (v := 0) (by decide) ?_
  refine lv_istore_n (lv' := [(1, .int 0), (2, .int 0), (0, .int 0)]) hx hb dX8_bitsOf_26 rfl hl (by decide) rfl (fun ls hl => ?_)
  refine lv_iinc (v := 1) (lv' := [(2, .int 1), (1, .int 0), (0, .int 0)]) hx hb dX8_bitsOf_27 hl (k := 1) rfl (by decide) (by decide) rfl (fun ls hl => ?_)
  refine lv_goto (tgt := 4) hx hb dX8_bitsOf_30 (by decide) ?_
  refine lv_iload_n hx hb dX8_bitsOf_4 rfl (lv_at hl 0 rfl) ?_
  refine lv_bipush (v := 10) hx hb dX8_bitsOf_5 (by decide) ?_
  refine lv_icmp_ge (tgt := 33) hx hb dX8_bitsOf_7 (by decide) (fun c9 => absurd c9 (by decide)) (fun _ => ?_)
  refine lv_iload_n hx hb dX8_bitsOf_10 rfl (lv_at hl 1 rfl) ?_
  refine lv_iload_n hx hb dX8_bitsOf_11 rfl (lv_at hl 2 rfl) ?_
  refine lv_i2l (v := 0) hx hb dX8_bitsOf_12 (by decide) ?_
  refine lv_iload_n hx hb dX8_bitsOf_13 rfl (lv_at hl 0 rfl) ?_
  refine kS_i (As := [.long 0, .int 1]) (rest := [.int 0]) (cs := []) ⟨hx, hb, hml, hown, hts⟩ (c_M_isIn0 l D k 1) (gS mw_530 mw_531 mw_5 mw_532) hd_yX8_isIn rfl rfl ⟨Nat.le_of_ble_eq_true rfl, Nat.le_of_ble_eq_true rfl⟩ hK (hP.sub (ws' := []) [] rfl) rfl hl.1 rfl (Nat.le_of_ble_eq_true rfl) dX8_bitsOf_14 ⟨Nat.le_of_ble_eq_true rfl, Nat.le_of_ble_eq_true rfl⟩ (fun r_2 hr_2 => ?_)
  obtain rfl : r_2 = 0 := hr_2
  refine lv_if_eq (tgt := 24) hx hb dX8_bitsOf_17 (by decide) (fun _ => ?_) (fun c9 => absurd c9 (by decide))
  refine lv_iconst (v := 0) hx hb dX8_bitsOf_24 (by decide) ?_
  refine lv_iadd hx hb dX8_bitsOf_25 ?_
  refine lv_ni (v := 0) (by decide) ?_
  refine lv_istore_n (lv' := [(1, .int 0), (2, .int 1), (0, .int 0)]) hx hb dX8_bitsOf_26 rfl hl (by decide) rfl (fun ls hl => ?_)
  refine lv_iinc (v := 2) (lv' := [(2, .int 2), (1, .int 0), (0, .int 0)]) hx hb dX8_bitsOf_27 hl (k := 1) rfl (by decide) (by decide) rfl (fun ls hl => ?_)
  refine lv_goto (tgt := 4) hx hb dX8_bitsOf_30 (by decide) ?_
  refine lv_iload_n hx hb dX8_bitsOf_4 rfl (lv_at hl 0 rfl) ?_
  refine lv_bipush (v := 10) hx hb dX8_bitsOf_5 (by decide) ?_
  refine lv_icmp_ge (tgt := 33) hx hb dX8_bitsOf_7 (by decide) (fun c9 => absurd c9 (by decide)) (fun _ => ?_)
  refine lv_iload_n hx hb dX8_bitsOf_10 rfl (lv_at hl 1 rfl) ?_
  refine lv_iload_n hx hb dX8_bitsOf_11 rfl (lv_at hl 2 rfl) ?_
  refine lv_i2l (v := 0) hx hb dX8_bitsOf_12 (by decide) ?_
  refine lv_iload_n hx hb dX8_bitsOf_13 rfl (lv_at hl 0 rfl) ?_
  refine kS_i (As := [.long 0, .int 2]) (rest := [.int 0]) (cs := []) ⟨hx, hb, hml, hown, hts⟩ (c_M_isIn0 l D k 2) (gS mw_530 mw_531 mw_5 mw_532) hd_yX8_isIn rfl rfl ⟨Nat.le_of_ble_eq_true rfl, Nat.le_of_ble_eq_true rfl⟩ hK (hP.sub (ws' := []) [] rfl) rfl hl.1 rfl (Nat.le_of_ble_eq_true rfl) dX8_bitsOf_14 ⟨Nat.le_of_ble_eq_true rfl, Nat.le_of_ble_eq_true rfl⟩ (fun r_3 hr_3 => ?_)
  obtain rfl : r_3 = 0 := hr_3
  refine lv_if_eq (tgt := 24) hx hb dX8_bitsOf_17 (by decide) (fun _ => ?_) (fun c9 => absurd c9 (by decide))
  refine lv_iconst (v := 0) hx hb dX8_bitsOf_24 (by decide) ?_
  refine lv_iadd hx hb dX8_bitsOf_25 ?_
  refine lv_ni (v := 0) (by decide) ?_
  refine lv_istore_n (lv' := [(1, .int 0), (2, .int 2), (0, .int 0)]) hx hb dX8_bitsOf_26 rfl hl (by decide) rfl (fun ls hl => ?_)
  refine lv_iinc (v := 3) (lv' := [(2, .int 3), (1, .int 0), (0, .int 0)]) hx hb dX8_bitsOf_27 hl (k := 1) rfl (by decide) (by decide) rfl (fun ls hl => ?_)
  refine lv_goto (tgt := 4) hx hb dX8_bitsOf_30 (by decide) ?_
  refine lv_iload_n hx hb dX8_bitsOf_4 rfl (lv_at hl 0 rfl) ?_
  refine lv_bipush (v := 10) hx hb dX8_bitsOf_5 (by decide) ?_
  refine lv_icmp_ge (tgt := 33) hx hb dX8_bitsOf_7 (by decide) (fun c9 => absurd c9 (by decide)) (fun _ => ?_)
  refine lv_iload_n hx hb dX8_bitsOf_10 rfl (lv_at hl 1 rfl) ?_
  refine lv_iload_n hx hb dX8_bitsOf_11 rfl (lv_at hl 2 rfl) ?_
  refine lv_i2l (v := 0) hx hb dX8_bitsOf_12 (by decide) ?_
  refine lv_iload_n hx hb dX8_bitsOf_13 rfl (lv_at hl 0 rfl) ?_
  refine kS_i (As := [.long 0, .int 3]) (rest := [.int 0]) (cs := []) ⟨hx, hb, hml, hown, hts⟩ (c_M_isIn0 l D k 3) (gS mw_530 mw_531 mw_5 mw_532) hd_yX8_isIn rfl rfl ⟨Nat.le_of_ble_eq_true rfl, Nat.le_of_ble_eq_true rfl⟩ hK (hP.sub (ws' := []) [] rfl) rfl hl.1 rfl (Nat.le_of_ble_eq_true rfl) dX8_bitsOf_14 ⟨Nat.le_of_ble_eq_true rfl, Nat.le_of_ble_eq_true rfl⟩ (fun r_4 hr_4 => ?_)
  obtain rfl : r_4 = 0 := hr_4
  refine lv_if_eq (tgt := 24) hx hb dX8_bitsOf_17 (by decide) (fun _ => ?_) (fun c9 => absurd c9 (by decide))
  refine lv_iconst (v := 0) hx hb dX8_bitsOf_24 (by decide) ?_
  refine lv_iadd hx hb dX8_bitsOf_25 ?_
  refine lv_ni (v := 0) (by decide) ?_
  refine lv_istore_n (lv' := [(1, .int 0), (2, .int 3), (0, .int 0)]) hx hb dX8_bitsOf_26 rfl hl (by decide) rfl (fun ls hl => ?_)
  refine lv_iinc (v := 4) (lv' := [(2, .int 4), (1, .int 0), (0, .int 0)]) hx hb dX8_bitsOf_27 hl (k := 1) rfl (by decide) (by decide) rfl (fun ls hl => ?_)
  refine lv_goto (tgt := 4) hx hb dX8_bitsOf_30 (by decide) ?_
  refine lv_iload_n hx hb dX8_bitsOf_4 rfl (lv_at hl 0 rfl) ?_
  refine lv_bipush (v := 10) hx hb dX8_bitsOf_5 (by decide) ?_
  refine lv_icmp_ge (tgt := 33) hx hb dX8_bitsOf_7 (by decide) (fun c9 => absurd c9 (by decide)) (fun _ => ?_)
  refine lv_iload_n hx hb dX8_bitsOf_10 rfl (lv_at hl 1 rfl) ?_
  refine lv_iload_n hx hb dX8_bitsOf_11 rfl (lv_at hl 2 rfl) ?_
  refine lv_i2l (v := 0) hx hb dX8_bitsOf_12 (by decide) ?_
  refine lv_iload_n hx hb dX8_bitsOf_13 rfl (lv_at hl 0 rfl) ?_
  refine kS_i (As := [.long 0, .int 4]) (rest := [.int 0]) (cs := []) ⟨hx, hb, hml, hown, hts⟩ (c_M_isIn0 l D k 4) (gS mw_530 mw_531 mw_5 mw_532) hd_yX8_isIn rfl rfl ⟨Nat.le_of_ble_eq_true rfl, Nat.le_of_ble_eq_true rfl⟩ hK (hP.sub (ws' := []) [] rfl) rfl hl.1 rfl (Nat.le_of_ble_eq_true rfl) dX8_bitsOf_14 ⟨Nat.le_of_ble_eq_true rfl, Nat.le_of_ble_eq_true rfl⟩ (fun r_5 hr_5 => ?_)
  obtain rfl : r_5 = 0 := hr_5
  refine lv_if_eq (tgt := 24) hx hb dX8_bitsOf_17 (by decide) (fun _ => ?_) (fun c9 => absurd c9 (by decide))
  refine lv_iconst (v := 0) hx hb dX8_bitsOf_24 (by decide) ?_
  refine lv_iadd hx hb dX8_bitsOf_25 ?_
  refine lv_ni (v := 0) (by decide) ?_
  refine lv_istore_n (lv' := [(1, .int 0), (2, .int 4), (0, .int 0)]) hx hb dX8_bitsOf_26 rfl hl (by decide) rfl (fun ls hl => ?_)
  refine lv_iinc (v := 5) (lv' := [(2, .int 5), (1, .int 0), (0, .int 0)]) hx hb dX8_bitsOf_27 hl (k := 1) rfl (by decide) (by decide) rfl (fun ls hl => ?_)
  refine lv_goto (tgt := 4) hx hb dX8_bitsOf_30 (by decide) ?_
  refine lv_iload_n hx hb dX8_bitsOf_4 rfl (lv_at hl 0 rfl) ?_
  refine lv_bipush (v := 10) hx hb dX8_bitsOf_5 (by decide) ?_
  refine lv_icmp_ge (tgt := 33) hx hb dX8_bitsOf_7 (by decide) (fun c9 => absurd c9 (by decide)) (fun _ => ?_)
  refine lv_iload_n hx hb dX8_bitsOf_10 rfl (lv_at hl 1 rfl) ?_
  refine lv_iload_n hx hb dX8_bitsOf_11 rfl (lv_at hl 2 rfl) ?_
  refine lv_i2l (v := 0) hx hb dX8_bitsOf_12 (by decide) ?_
  refine lv_iload_n hx hb dX8_bitsOf_13 rfl (lv_at hl 0 rfl) ?_
  refine kS_i (As := [.long 0, .int 5]) (rest := [.int 0]) (cs := []) ⟨hx, hb, hml, hown, hts⟩ (c_M_isIn0 l D k 5) (gS mw_530 mw_531 mw_5 mw_532) hd_yX8_isIn rfl rfl ⟨Nat.le_of_ble_eq_true rfl, Nat.le_of_ble_eq_true rfl⟩ hK (hP.sub (ws' := []) [] rfl) rfl hl.1 rfl (Nat.le_of_ble_eq_true rfl) dX8_bitsOf_14 ⟨Nat.le_of_ble_eq_true rfl, Nat.le_of_ble_eq_true rfl⟩ (fun r_6 hr_6 => ?_)
  obtain rfl : r_6 = 0 := hr_6
  refine lv_if_eq (tgt := 24) hx hb dX8_bitsOf_17 (by decide) (fun _ => ?_) (fun c9 => absurd c9 (by decide))
  refine lv_iconst (v := 0) hx hb dX8_bitsOf_24 (by decide) ?_
  refine lv_iadd hx hb dX8_bitsOf_25 ?_
  refine lv_ni (v := 0) (by decide) ?_
  refine lv_istore_n (lv' := [(1, .int 0), (2, .int 5), (0, .int 0)]) hx hb dX8_bitsOf_26 rfl hl (by decide) rfl (fun ls hl => ?_)
  refine lv_iinc (v := 6) (lv' := [(2, .int 6), (1, .int 0), (0, .int 0)]) hx hb dX8_bitsOf_27 hl (k := 1) rfl (by decide) (by decide) rfl (fun ls hl => ?_)
  refine lv_goto (tgt := 4) hx hb dX8_bitsOf_30 (by decide) ?_
  refine lv_iload_n hx hb dX8_bitsOf_4 rfl (lv_at hl 0 rfl) ?_
  refine lv_bipush (v := 10) hx hb dX8_bitsOf_5 (by decide) ?_
  refine lv_icmp_ge (tgt := 33) hx hb dX8_bitsOf_7 (by decide) (fun c9 => absurd c9 (by decide)) (fun _ => ?_)
  refine lv_iload_n hx hb dX8_bitsOf_10 rfl (lv_at hl 1 rfl) ?_
  refine lv_iload_n hx hb dX8_bitsOf_11 rfl (lv_at hl 2 rfl) ?_
  refine lv_i2l (v := 0) hx hb dX8_bitsOf_12 (by decide) ?_
  refine lv_iload_n hx hb dX8_bitsOf_13 rfl (lv_at hl 0 rfl) ?_
  refine kS_i (As := [.long 0, .int 6]) (rest := [.int 0]) (cs := []) ⟨hx, hb, hml, hown, hts⟩ (c_M_isIn0 l D k 6) (gS mw_530 mw_531 mw_5 mw_532) hd_yX8_isIn rfl rfl ⟨Nat.le_of_ble_eq_true rfl, Nat.le_of_ble_eq_true rfl⟩ hK (hP.sub (ws' := []) [] rfl) rfl hl.1 rfl (Nat.le_of_ble_eq_true rfl) dX8_bitsOf_14 ⟨Nat.le_of_ble_eq_true rfl, Nat.le_of_ble_eq_true rfl⟩ (fun r_7 hr_7 => ?_)
  obtain rfl : r_7 = 0 := hr_7
  refine lv_if_eq (tgt := 24) hx hb dX8_bitsOf_17 (by decide) (fun _ => ?_) (fun c9 => absurd c9 (by decide))
  refine lv_iconst (v := 0) hx hb dX8_bitsOf_24 (by decide) ?_
  refine lv_iadd hx hb dX8_bitsOf_25 ?_
  refine lv_ni (v := 0) (by decide) ?_
  refine lv_istore_n (lv' := [(1, .int 0), (2, .int 6), (0, .int 0)]) hx hb dX8_bitsOf_26 rfl hl (by decide) rfl (fun ls hl => ?_)
  refine lv_iinc (v := 7) (lv' := [(2, .int 7), (1, .int 0), (0, .int 0)]) hx hb dX8_bitsOf_27 hl (k := 1) rfl (by decide) (by decide) rfl (fun ls hl => ?_)
  refine lv_goto (tgt := 4) hx hb dX8_bitsOf_30 (by decide) ?_
  refine lv_iload_n hx hb dX8_bitsOf_4 rfl (lv_at hl 0 rfl) ?_
  refine lv_bipush (v := 10) hx hb dX8_bitsOf_5 (by decide) ?_
  refine lv_icmp_ge (tgt := 33) hx hb dX8_bitsOf_7 (by decide) (fun c9 => absurd c9 (by decide)) (fun _ => ?_)
  refine lv_iload_n hx hb dX8_bitsOf_10 rfl (lv_at hl 1 rfl) ?_
  refine lv_iload_n hx hb dX8_bitsOf_11 rfl (lv_at hl 2 rfl) ?_
  refine lv_i2l (v := 0) hx hb dX8_bitsOf_12 (by decide) ?_
  refine lv_iload_n hx hb dX8_bitsOf_13 rfl (lv_at hl 0 rfl) ?_
  refine kS_i (As := [.long 0, .int 7]) (rest := [.int 0]) (cs := []) ⟨hx, hb, hml, hown, hts⟩ (c_M_isIn0 l D k 7) (gS mw_530 mw_531 mw_5 mw_532) hd_yX8_isIn rfl rfl ⟨Nat.le_of_ble_eq_true rfl, Nat.le_of_ble_eq_true rfl⟩ hK (hP.sub (ws' := []) [] rfl) rfl hl.1 rfl (Nat.le_of_ble_eq_true rfl) dX8_bitsOf_14 ⟨Nat.le_of_ble_eq_true rfl, Nat.le_of_ble_eq_true rfl⟩ (fun r_8 hr_8 => ?_)
  obtain rfl : r_8 = 0 := hr_8
  refine lv_if_eq (tgt := 24) hx hb dX8_bitsOf_17 (by decide) (fun _ => ?_) (fun c9 => absurd c9 (by decide))
  refine lv_iconst (v := 0) hx hb dX8_bitsOf_24 (by decide) ?_
  refine lv_iadd hx hb dX8_bitsOf_25 ?_
  refine lv_ni (v := 0) (by decide) ?_
  refine lv_istore_n (lv' := [(1, .int 0), (2, .int 7), (0, .int 0)]) hx hb dX8_bitsOf_26 rfl hl (by decide) rfl (fun ls hl => ?_)
  refine lv_iinc (v := 8) (lv' := [(2, .int 8), (1, .int 0), (0, .int 0)]) hx hb dX8_bitsOf_27 hl (k := 1) rfl (by decide) (by decide) rfl (fun ls hl => ?_)
  refine lv_goto (tgt := 4) hx hb dX8_bitsOf_30 (by decide) ?_
  refine lv_iload_n hx hb dX8_bitsOf_4 rfl (lv_at hl 0 rfl) ?_
  refine lv_bipush (v := 10) hx hb dX8_bitsOf_5 (by decide) ?_
  refine lv_icmp_ge (tgt := 33) hx hb dX8_bitsOf_7 (by decide) (fun c9 => absurd c9 (by decide)) (fun _ => ?_)
  refine lv_iload_n hx hb dX8_bitsOf_10 rfl (lv_at hl 1 rfl) ?_
  refine lv_iload_n hx hb dX8_bitsOf_11 rfl (lv_at hl 2 rfl) ?_
  refine lv_i2l (v := 0) hx hb dX8_bitsOf_12 (by decide) ?_
  refine lv_iload_n hx hb dX8_bitsOf_13 rfl (lv_at hl 0 rfl) ?_
  refine kS_i (As := [.long 0, .int 8]) (rest := [.int 0]) (cs := []) ⟨hx, hb, hml, hown, hts⟩ (c_M_isIn0 l D k 8) (gS mw_530 mw_531 mw_5 mw_532) hd_yX8_isIn rfl rfl ⟨Nat.le_of_ble_eq_true rfl, Nat.le_of_ble_eq_true rfl⟩ hK (hP.sub (ws' := []) [] rfl) rfl hl.1 rfl (Nat.le_of_ble_eq_true rfl) dX8_bitsOf_14 ⟨Nat.le_of_ble_eq_true rfl, Nat.le_of_ble_eq_true rfl⟩ (fun r_9 hr_9 => ?_)
  obtain rfl : r_9 = 0 := hr_9
  refine lv_if_eq (tgt := 24) hx hb dX8_bitsOf_17 (by decide) (fun _ => ?_) (fun c9 => absurd c9 (by decide))
  refine lv_iconst (v := 0) hx hb dX8_bitsOf_24 (by decide) ?_
  refine lv_iadd hx hb dX8_bitsOf_25 ?_
  refine lv_ni (v := 0) (by decide) ?_
  refine lv_istore_n (lv' := [(1, .int 0), (2, .int 8), (0, .int 0)]) hx hb dX8_bitsOf_26 rfl hl (by decide) rfl (fun ls hl => ?_)
  refine lv_iinc (v := 9) (lv' := [(2, .int 9), (1, .int 0), (0, .int 0)]) hx hb dX8_bitsOf_27 hl (k := 1) rfl (by decide) (by decide) rfl (fun ls hl => ?_)
  refine lv_goto (tgt := 4) hx hb dX8_bitsOf_30 (by decide) ?_
  refine lv_iload_n hx hb dX8_bitsOf_4 rfl (lv_at hl 0 rfl) ?_
  refine lv_bipush (v := 10) hx hb dX8_bitsOf_5 (by decide) ?_
  refine lv_icmp_ge (tgt := 33) hx hb dX8_bitsOf_7 (by decide) (fun c9 => absurd c9 (by decide)) (fun _ => ?_)
  refine lv_iload_n hx hb dX8_bitsOf_10 rfl (lv_at hl 1 rfl) ?_
  refine lv_iload_n hx hb dX8_bitsOf_11 rfl (lv_at hl 2 rfl) ?_
  refine lv_i2l (v := 0) hx hb dX8_bitsOf_12 (by decide) ?_
  refine lv_iload_n hx hb dX8_bitsOf_13 rfl (lv_at hl 0 rfl) ?_
  refine kS_i (As := [.long 0, .int 9]) (rest := [.int 0]) (cs := []) ⟨hx, hb, hml, hown, hts⟩ (c_M_isIn0 l D k 9) (gS mw_530 mw_531 mw_5 mw_532) hd_yX8_isIn rfl rfl ⟨Nat.le_of_ble_eq_true rfl, Nat.le_of_ble_eq_true rfl⟩ hK (hP.sub (ws' := []) [] rfl) rfl hl.1 rfl (Nat.le_of_ble_eq_true rfl) dX8_bitsOf_14 ⟨Nat.le_of_ble_eq_true rfl, Nat.le_of_ble_eq_true rfl⟩ (fun r_10 hr_10 => ?_)
  obtain rfl : r_10 = 0 := hr_10
  refine lv_if_eq (tgt := 24) hx hb dX8_bitsOf_17 (by decide) (fun _ => ?_) (fun c9 => absurd c9 (by decide))
  refine lv_iconst (v := 0) hx hb dX8_bitsOf_24 (by decide) ?_
  refine lv_iadd hx hb dX8_bitsOf_25 ?_
  refine lv_ni (v := 0) (by decide) ?_
  refine lv_istore_n (lv' := [(1, .int 0), (2, .int 9), (0, .int 0)]) hx hb dX8_bitsOf_26 rfl hl (by decide) rfl (fun ls hl => ?_)
  refine lv_iinc (v := 10) (lv' := [(2, .int 10), (1, .int 0), (0, .int 0)]) hx hb dX8_bitsOf_27 hl (k := 1) rfl (by decide) (by decide) rfl (fun ls hl => ?_)
  refine lv_goto (tgt := 4) hx hb dX8_bitsOf_30 (by decide) ?_
  refine lv_iload_n hx hb dX8_bitsOf_4 rfl (lv_at hl 0 rfl) ?_
  refine lv_bipush (v := 10) hx hb dX8_bitsOf_5 (by decide) ?_
  refine lv_icmp_ge (tgt := 33) hx hb dX8_bitsOf_7 (by decide) (fun _ => ?_) (fun c9 => absurd c9 (by decide))
  refine lv_iload_n hx hb dX8_bitsOf_33 rfl (lv_at hl 1 rfl) ?_
  exact W.iret (v := 0) hx hb hr (fun t ht hW => ⟨0, rfl, rfl, ht⟩) (fun q h => by cases h) dX8_bitsOf_34
set_option maxHeartbeats 4000000 in
set_option maxRecDepth 100000 in
theorem c_M_power0 (l : Launch) (D : va_G) (k : Nat → ClassId) (x : Int32) : Met l yX8_power (Cond.code yX8_power cX8_power 5 (some .long) :: wsL_law) ({ frames := 0, cells := 0, slots := 0, locals := 0 } : Room) (va_Pc [.int x, .int 0] (pr D k [])) (vp_Sl (fun rr => rr = 1)) 0 0 (fun _ => False) := by
  refine Met.ofW (cc := cX8_power) (maxL := 5) (ret := (some .long)) (by decide) rfl ?_
  intro p e s m args below meth c s₁ B hml hv
  obtain ⟨rfl, hP, hK⟩ := hv
  have hx := B.exec
  have hb := B.bytes
  have hr := B.returns
  have hts : ∀ w ∈ wsL_law, w.before _ s = true := fun w h => atoms_spec (ws := Cond.code yX8_power cX8_power 5 (some .long) :: wsL_law) B.pre w (List.mem_cons_of_mem _ h)
  have hown : s.vm.findClass RX8 = some m.cls := findClass_of_methodNamed B.named
  have hlocks := B.notSynchronized
  have hP : va_P D vwCl [] s.heap := hP
  have hl := lv_entry ([.int x, .int 0]) (n := 5) (Nat.le_of_ble_eq_true rfl)
  rw [lg_entry_eq]
  generalize (lg_sl ([.int x, .int 0]) ++ List.replicate (5 - (lg_sl ([.int x, .int 0])).length) Slot.unset).toArray = ls at hl ⊢
  have hl : lv_has ls 5 [(0, .int x), (1, .int 0)] := hl
  refine lv_lconst (v := 1) hx hb dX8_power_0 (by decide) ?_
  refine lv_lstore_n (lv' := [(2, .long 1), (0, .int x), (1, .int 0)]) hx hb dX8_power_1 rfl hl (by decide) rfl (fun ls hl => ?_)
  refine lv_iconst (v := 0) hx hb dX8_power_2 (by decide) ?_
  refine lv_istore (lv' := [(4, .int 0), (2, .long 1), (0, .int x), (1, .int 0)]) hx hb dX8_power_3 hl (by decide) rfl (fun ls hl => ?_)
  refine lv_iload hx hb dX8_power_5 (lv_at hl 0 rfl) ?_
  refine lv_iload_n hx hb dX8_power_7 rfl (lv_at hl 3 rfl) ?_
  refine lv_icmp_ge (tgt := 22) hx hb dX8_power_8 (by decide) (fun _ => ?_) (fun c9 => absurd c9 (by decide))
  refine lv_lload_n hx hb dX8_power_22 rfl (lv_at hl 1 rfl) ?_
  exact W.lret (v := 1) hx hb hr (fun t ht hW => ⟨1, rfl, rfl, ht⟩) (fun q h => by cases h) dX8_power_23
set_option maxHeartbeats 4000000 in
set_option maxRecDepth 100000 in
theorem c_M_isRoof (l : Launch) (D : va_G) (k : Nat → ClassId) (mm : Nat → Nat) (fw : Int32) (f : Nat → Int32) (r : Int32) (hf : f 0 = 0) : Met l yX8_isRoof (Cond.code yX8_isRoof cX8_isRoof 2 (some .boolean) :: wsL_law) ({ frames := 1, cells := 0, slots := 0, locals := 60 } : Room) (va_Pc [.ref (mm 0), .int r] (pr D k [((mm 0), .inr (7, [.int 0, .ref (mm 1), .ref (mm 2), .ref (mm 3), .ref (mm 4), .ref (mm 5), .int 0, .int 0, .int 0, .int 0, .int 0, .int 0, .int 0, .int 0, .int 0, .int (-1), .int 0, .ref (mm 6), .int 0, .ref (mm 7), .ref (mm 8), .ref (mm 9), .int fw, .ref (mm 10), .ref (mm 11), .int 0, .int 0, .ref (mm 12), .ref (mm 13), .int 0, .ref (mm 14), .ref (mm 15), .ref (mm 16)])), ((mm 1), .inl (k 0, 1227, .inl f))])) (vp_Si (fun rr => rr = 0)) 0 0 (fun _ => False) := by
  refine Met.ofW (cc := cX8_isRoof) (maxL := 2) (ret := (some .boolean)) (by decide) rfl ?_
  intro p e s m args below meth c s₁ B hml hv
  obtain ⟨rfl, hP, hK⟩ := hv
  have hx := B.exec
  have hb := B.bytes
  have hr := B.returns
  have hts : ∀ w ∈ wsL_law, w.before _ s = true := fun w h => atoms_spec (ws := Cond.code yX8_isRoof cX8_isRoof 2 (some .boolean) :: wsL_law) B.pre w (List.mem_cons_of_mem _ h)
  have hown : s.vm.findClass RX8 = some m.cls := findClass_of_methodNamed B.named
  have hlocks := B.notSynchronized
  have hP : va_P D vwCl [((mm 0), .inr (7, [.int 0, .ref (mm 1), .ref (mm 2), .ref (mm 3), .ref (mm 4), .ref (mm 5), .int 0, .int 0, .int 0, .int 0, .int 0, .int 0, .int 0, .int 0, .int 0, .int (-1), .int 0, .ref (mm 6), .int 0, .ref (mm 7), .ref (mm 8), .ref (mm 9), .int fw, .ref (mm 10), .ref (mm 11), .int 0, .int 0, .ref (mm 12), .ref (mm 13), .int 0, .ref (mm 14), .ref (mm 15), .ref (mm 16)])), ((mm 1), .inl (k 0, 1227, .inl f))] s.heap := hP
  have hl := lv_entry ([.ref (mm 0), .int r]) (n := 2) (Nat.le_of_ble_eq_true rfl)
  rw [lg_entry_eq]
  generalize (lg_sl ([.ref (mm 0), .int r]) ++ List.replicate (2 - (lg_sl ([.ref (mm 0), .int r])).length) Slot.unset).toArray = ls at hl ⊢
  have hl : lv_has ls 2 [(0, .ref (mm 0)), (1, .int r)] := hl
  refine lv_iload_n hx hb dX8_isRoof_0 rfl (lv_at hl 1 rfl) ?_
  refine lv_i2l (v := r.toInt64) hx hb dX8_isRoof_1 rfl ?_
  refine lv_lconst (v := 0) hx hb dX8_isRoof_2 (by decide) ?_
  refine lv_aload_n hx hb dX8_isRoof_3 rfl (lv_at hl 0 rfl) ?_
  refine va_get (D := D) (ci := 7) (v := .ref (mm 1)) (C := RX8) (T := TX8) (N := 33) hx hb hts inlX8 hown hK hP 0 rfl rfl 1 (by decide) (hts _ mw_91) (fun _ h9 => h9) rfl dX8_isRoof_4 ?_
  refine lv_iconst (v := 0) hx hb dX8_isRoof_7 (by decide) ?_
  refine va_iald hx hb hK hP 1 0 rfl rfl (vp_in_c (by decide)) dX8_isRoof_8 ?_
  refine lv_ni (v := 0) (hf) ?_
  refine lv_iconst (v := 1) hx hb dX8_isRoof_9 (by decide) ?_
  refine lv_isub hx hb dX8_isRoof_10 ?_
  refine lv_ni (v := (-1)) (by decide) ?_
  refine lv_i2l (v := (-1)) hx hb dX8_isRoof_11 (by decide) ?_
  refine kS_i (As := [.long r.toInt64, .long 0, .long (-1)]) (rest := []) (cs := []) ⟨hx, hb, hml, hown, hts⟩ (c_M_within l D k r 0 (-1)) (gS mw_294 mw_295 mw_5 mw_296) hd_yX8_within rfl rfl ⟨Nat.le_of_ble_eq_true rfl, Nat.le_of_ble_eq_true rfl⟩ hK (hP.sub (ws' := []) [] rfl) rfl hl.1 rfl (Nat.le_of_ble_eq_true rfl) dX8_isRoof_12 ⟨Nat.le_of_ble_eq_true rfl, Nat.le_of_ble_eq_true rfl⟩ (fun r_1 hr_1 => ?_)
  have hr_1 := hr_1.trans (if_neg (show ¬ (0 ≤ r.toInt ∧ r.toInt ≤ -1) from by omega))
  obtain rfl : r_1 = 0 := hr_1
  exact W.zret (v := 0) hx hb hr rfl (fun t ht hW => ⟨0, rfl, rfl, ht⟩) (fun q h => by cases h) dX8_isRoof_15
set_option maxHeartbeats 4000000 in
set_option maxRecDepth 100000 in
theorem c_M_rains (l : Launch) (D : va_G) (k : Nat → ClassId) (mm : Nat → Nat) (fw : Int32) (f : Nat → Int32) (hf : f 0 = 0) : Met l yX8_rains (Cond.code yX8_rains cX8_rains 4 (some .int) :: wsL_law) ({ frames := 0, cells := 0, slots := 0, locals := 0 } : Room) (va_Pc [.ref (mm 0)] (pr D k [((mm 0), .inr (7, [.int 0, .ref (mm 1), .ref (mm 2), .ref (mm 3), .ref (mm 4), .ref (mm 5), .int 0, .int 0, .int 0, .int 0, .int 0, .int 0, .int 0, .int 0, .int 0, .int (-1), .int 0, .ref (mm 6), .int 0, .ref (mm 7), .ref (mm 8), .ref (mm 9), .int fw, .ref (mm 10), .ref (mm 11), .int 0, .int 0, .ref (mm 12), .ref (mm 13), .int 0, .ref (mm 14), .ref (mm 15), .ref (mm 16)])), ((mm 1), .inl (k 0, 1227, .inl f))])) (vp_Si (fun rr => rr = 0)) 0 0 (fun _ => False) := by
  refine Met.ofW (cc := cX8_rains) (maxL := 4) (ret := (some .int)) (by decide) rfl ?_
  intro p e s m args below meth c s₁ B hml hv
  obtain ⟨rfl, hP, hK⟩ := hv
  have hx := B.exec
  have hb := B.bytes
  have hr := B.returns
  have hts : ∀ w ∈ wsL_law, w.before _ s = true := fun w h => atoms_spec (ws := Cond.code yX8_rains cX8_rains 4 (some .int) :: wsL_law) B.pre w (List.mem_cons_of_mem _ h)
  have hown : s.vm.findClass RX8 = some m.cls := findClass_of_methodNamed B.named
  have hlocks := B.notSynchronized
  have hP : va_P D vwCl [((mm 0), .inr (7, [.int 0, .ref (mm 1), .ref (mm 2), .ref (mm 3), .ref (mm 4), .ref (mm 5), .int 0, .int 0, .int 0, .int 0, .int 0, .int 0, .int 0, .int 0, .int 0, .int (-1), .int 0, .ref (mm 6), .int 0, .ref (mm 7), .ref (mm 8), .ref (mm 9), .int fw, .ref (mm 10), .ref (mm 11), .int 0, .int 0, .ref (mm 12), .ref (mm 13), .int 0, .ref (mm 14), .ref (mm 15), .ref (mm 16)])), ((mm 1), .inl (k 0, 1227, .inl f))] s.heap := hP
  have hl := lv_entry ([.ref (mm 0)]) (n := 4) (Nat.le_of_ble_eq_true rfl)
  rw [lg_entry_eq]
  generalize (lg_sl ([.ref (mm 0)]) ++ List.replicate (4 - (lg_sl ([.ref (mm 0)])).length) Slot.unset).toArray = ls at hl ⊢
  have hl : lv_has ls 4 [(0, .ref (mm 0))] := hl
  refine lv_iconst (v := 0) hx hb dX8_rains_0 (by decide) ?_
  refine lv_istore_n (lv' := [(1, .int 0), (0, .ref (mm 0))]) hx hb dX8_rains_1 rfl hl (by decide) rfl (fun ls hl => ?_)
  refine lv_iconst (v := 0) hx hb dX8_rains_2 (by decide) ?_
  refine lv_istore_n (lv' := [(2, .int 0), (1, .int 0), (0, .ref (mm 0))]) hx hb dX8_rains_3 rfl hl (by decide) rfl (fun ls hl => ?_)
  refine lv_iload_n hx hb dX8_rains_4 rfl (lv_at hl 0 rfl) ?_
  refine lv_aload_n hx hb dX8_rains_5 rfl (lv_at hl 2 rfl) ?_
  refine va_get (D := D) (ci := 7) (v := .ref (mm 1)) (C := RX8) (T := TX8) (N := 33) hx hb hts inlX8 hown hK hP 0 rfl rfl 1 (by decide) (hts _ mw_91) (fun _ h9 => h9) rfl dX8_rains_6 ?_
  refine lv_iconst (v := 0) hx hb dX8_rains_9 (by decide) ?_
  refine va_iald hx hb hK hP 1 0 rfl rfl (vp_in_c (by decide)) dX8_rains_10 ?_
  refine lv_ni (v := 0) (hf) ?_
  refine lv_icmp_ge (tgt := 90) hx hb dX8_rains_11 (by decide) (fun _ => ?_) (fun c9 => absurd c9 (by decide))
  refine lv_iload_n hx hb dX8_rains_90 rfl (lv_at hl 1 rfl) ?_
  exact W.iret (v := 0) hx hb hr (fun t ht hW => ⟨0, rfl, rfl, ht⟩) (fun q h => by cases h) dX8_rains_91
set_option maxHeartbeats 4000000 in
set_option maxRecDepth 100000 in
theorem c_M_dripping (l : Launch) (D : va_G) (k : Nat → ClassId) (mm : Nat → Nat) (fw : Int32) (f : Nat → Int32) (hf : f 0 = 0) : Met l yX8_dripping (Cond.code yX8_dripping cX8_dripping 3 (some .int) :: wsL_law) ({ frames := 0, cells := 0, slots := 0, locals := 0 } : Room) (va_Pc [.ref (mm 0)] (pr D k [((mm 0), .inr (7, [.int 0, .ref (mm 1), .ref (mm 2), .ref (mm 3), .ref (mm 4), .ref (mm 5), .int 0, .int 0, .int 0, .int 0, .int 0, .int 0, .int 0, .int 0, .int 0, .int (-1), .int 0, .ref (mm 6), .int 0, .ref (mm 7), .ref (mm 8), .ref (mm 9), .int fw, .ref (mm 10), .ref (mm 11), .int 0, .int 0, .ref (mm 12), .ref (mm 13), .int 0, .ref (mm 14), .ref (mm 15), .ref (mm 16)])), ((mm 1), .inl (k 0, 1227, .inl f))])) (vp_Si (fun rr => rr = 0)) 0 0 (fun _ => False) := by
  refine Met.ofW (cc := cX8_dripping) (maxL := 3) (ret := (some .int)) (by decide) rfl ?_
  intro p e s m args below meth c s₁ B hml hv
  obtain ⟨rfl, hP, hK⟩ := hv
  have hx := B.exec
  have hb := B.bytes
  have hr := B.returns
  have hts : ∀ w ∈ wsL_law, w.before _ s = true := fun w h => atoms_spec (ws := Cond.code yX8_dripping cX8_dripping 3 (some .int) :: wsL_law) B.pre w (List.mem_cons_of_mem _ h)
  have hown : s.vm.findClass RX8 = some m.cls := findClass_of_methodNamed B.named
  have hlocks := B.notSynchronized
  have hP : va_P D vwCl [((mm 0), .inr (7, [.int 0, .ref (mm 1), .ref (mm 2), .ref (mm 3), .ref (mm 4), .ref (mm 5), .int 0, .int 0, .int 0, .int 0, .int 0, .int 0, .int 0, .int 0, .int 0, .int (-1), .int 0, .ref (mm 6), .int 0, .ref (mm 7), .ref (mm 8), .ref (mm 9), .int fw, .ref (mm 10), .ref (mm 11), .int 0, .int 0, .ref (mm 12), .ref (mm 13), .int 0, .ref (mm 14), .ref (mm 15), .ref (mm 16)])), ((mm 1), .inl (k 0, 1227, .inl f))] s.heap := hP
  have hl := lv_entry ([.ref (mm 0)]) (n := 3) (Nat.le_of_ble_eq_true rfl)
  rw [lg_entry_eq]
  generalize (lg_sl ([.ref (mm 0)]) ++ List.replicate (3 - (lg_sl ([.ref (mm 0)])).length) Slot.unset).toArray = ls at hl ⊢
  have hl : lv_has ls 3 [(0, .ref (mm 0))] := hl
  refine lv_iconst (v := 0) hx hb dX8_dripping_0 (by decide) ?_
  refine lv_istore_n (lv' := [(1, .int 0), (0, .ref (mm 0))]) hx hb dX8_dripping_1 rfl hl (by decide) rfl (fun ls hl => ?_)
  refine lv_iconst (v := 0) hx hb dX8_dripping_2 (by decide) ?_
  refine lv_istore_n (lv' := [(2, .int 0), (1, .int 0), (0, .ref (mm 0))]) hx hb dX8_dripping_3 rfl hl (by decide) rfl (fun ls hl => ?_)
  refine lv_iload_n hx hb dX8_dripping_4 rfl (lv_at hl 0 rfl) ?_
  refine lv_aload_n hx hb dX8_dripping_5 rfl (lv_at hl 2 rfl) ?_
  refine va_get (D := D) (ci := 7) (v := .ref (mm 1)) (C := RX8) (T := TX8) (N := 33) hx hb hts inlX8 hown hK hP 0 rfl rfl 1 (by decide) (hts _ mw_91) (fun _ h9 => h9) rfl dX8_dripping_6 ?_
  refine lv_iconst (v := 0) hx hb dX8_dripping_9 (by decide) ?_
  refine va_iald hx hb hK hP 1 0 rfl rfl (vp_in_c (by decide)) dX8_dripping_10 ?_
  refine lv_ni (v := 0) (hf) ?_
  refine lv_icmp_ge (tgt := 38) hx hb dX8_dripping_11 (by decide) (fun _ => ?_) (fun c9 => absurd c9 (by decide))
  refine lv_iload_n hx hb dX8_dripping_38 rfl (lv_at hl 1 rfl) ?_
  exact W.iret (v := 0) hx hb hr (fun t ht hW => ⟨0, rfl, rfl, ht⟩) (fun q h => by cases h) dX8_dripping_39
set_option maxHeartbeats 4000000 in
set_option maxRecDepth 100000 in
theorem c_M_laidAll (l : Launch) (D : va_G) (k : Nat → ClassId) (mm : Nat → Nat) (fw : Int32) (f : Nat → Int32) (hf : f 0 = 0) : Met l yX8_laidAll (Cond.code yX8_laidAll cX8_laidAll 3 (some .int) :: wsL_law) ({ frames := 0, cells := 0, slots := 0, locals := 0 } : Room) (va_Pc [.ref (mm 0)] (pr D k [((mm 0), .inr (7, [.int 0, .ref (mm 1), .ref (mm 2), .ref (mm 3), .ref (mm 4), .ref (mm 5), .int 0, .int 0, .int 0, .int 0, .int 0, .int 0, .int 0, .int 0, .int 0, .int (-1), .int 0, .ref (mm 6), .int 0, .ref (mm 7), .ref (mm 8), .ref (mm 9), .int fw, .ref (mm 10), .ref (mm 11), .int 0, .int 0, .ref (mm 12), .ref (mm 13), .int 0, .ref (mm 14), .ref (mm 15), .ref (mm 16)])), ((mm 1), .inl (k 0, 1227, .inl f))])) (vp_Si (fun rr => rr = 0)) 0 0 (fun _ => False) := by
  refine Met.ofW (cc := cX8_laidAll) (maxL := 3) (ret := (some .int)) (by decide) rfl ?_
  intro p e s m args below meth c s₁ B hml hv
  obtain ⟨rfl, hP, hK⟩ := hv
  have hx := B.exec
  have hb := B.bytes
  have hr := B.returns
  have hts : ∀ w ∈ wsL_law, w.before _ s = true := fun w h => atoms_spec (ws := Cond.code yX8_laidAll cX8_laidAll 3 (some .int) :: wsL_law) B.pre w (List.mem_cons_of_mem _ h)
  have hown : s.vm.findClass RX8 = some m.cls := findClass_of_methodNamed B.named
  have hlocks := B.notSynchronized
  have hP : va_P D vwCl [((mm 0), .inr (7, [.int 0, .ref (mm 1), .ref (mm 2), .ref (mm 3), .ref (mm 4), .ref (mm 5), .int 0, .int 0, .int 0, .int 0, .int 0, .int 0, .int 0, .int 0, .int 0, .int (-1), .int 0, .ref (mm 6), .int 0, .ref (mm 7), .ref (mm 8), .ref (mm 9), .int fw, .ref (mm 10), .ref (mm 11), .int 0, .int 0, .ref (mm 12), .ref (mm 13), .int 0, .ref (mm 14), .ref (mm 15), .ref (mm 16)])), ((mm 1), .inl (k 0, 1227, .inl f))] s.heap := hP
  have hl := lv_entry ([.ref (mm 0)]) (n := 3) (Nat.le_of_ble_eq_true rfl)
  rw [lg_entry_eq]
  generalize (lg_sl ([.ref (mm 0)]) ++ List.replicate (3 - (lg_sl ([.ref (mm 0)])).length) Slot.unset).toArray = ls at hl ⊢
  have hl : lv_has ls 3 [(0, .ref (mm 0))] := hl
  refine lv_iconst (v := 0) hx hb dX8_laidAll_0 (by decide) ?_
  refine lv_istore_n (lv' := [(1, .int 0), (0, .ref (mm 0))]) hx hb dX8_laidAll_1 rfl hl (by decide) rfl (fun ls hl => ?_)
  refine lv_iconst (v := 0) hx hb dX8_laidAll_2 (by decide) ?_
  refine lv_istore_n (lv' := [(2, .int 0), (1, .int 0), (0, .ref (mm 0))]) hx hb dX8_laidAll_3 rfl hl (by decide) rfl (fun ls hl => ?_)
  refine lv_iload_n hx hb dX8_laidAll_4 rfl (lv_at hl 0 rfl) ?_
  refine lv_aload_n hx hb dX8_laidAll_5 rfl (lv_at hl 2 rfl) ?_
  refine va_get (D := D) (ci := 7) (v := .ref (mm 1)) (C := RX8) (T := TX8) (N := 33) hx hb hts inlX8 hown hK hP 0 rfl rfl 1 (by decide) (hts _ mw_91) (fun _ h9 => h9) rfl dX8_laidAll_6 ?_
  refine lv_iconst (v := 0) hx hb dX8_laidAll_9 (by decide) ?_
  refine va_iald hx hb hK hP 1 0 rfl rfl (vp_in_c (by decide)) dX8_laidAll_10 ?_
  refine lv_ni (v := 0) (hf) ?_
  refine lv_icmp_ge (tgt := 32) hx hb dX8_laidAll_11 (by decide) (fun _ => ?_) (fun c9 => absurd c9 (by decide))
  refine lv_iload_n hx hb dX8_laidAll_32 rfl (lv_at hl 1 rfl) ?_
  exact W.iret (v := 0) hx hb hr (fun t ht hW => ⟨0, rfl, rfl, ht⟩) (fun q h => by cases h) dX8_laidAll_33
set_option maxHeartbeats 4000000 in
set_option maxRecDepth 100000 in
theorem c_M_slates (l : Launch) (D : va_G) (k : Nat → ClassId) (mm : Nat → Nat) (fw : Int32) (f : Nat → Int32) (hf : f 0 = 0) : Met l yX8_slates (Cond.code yX8_slates cX8_slates 3 (some .int) :: wsL_law) ({ frames := 0, cells := 0, slots := 0, locals := 0 } : Room) (va_Pc [.ref (mm 0)] (pr D k [((mm 0), .inr (7, [.int 0, .ref (mm 1), .ref (mm 2), .ref (mm 3), .ref (mm 4), .ref (mm 5), .int 0, .int 0, .int 0, .int 0, .int 0, .int 0, .int 0, .int 0, .int 0, .int (-1), .int 0, .ref (mm 6), .int 0, .ref (mm 7), .ref (mm 8), .ref (mm 9), .int fw, .ref (mm 10), .ref (mm 11), .int 0, .int 0, .ref (mm 12), .ref (mm 13), .int 0, .ref (mm 14), .ref (mm 15), .ref (mm 16)])), ((mm 1), .inl (k 0, 1227, .inl f))])) (vp_Si (fun rr => rr = 0)) 0 0 (fun _ => False) := by
  refine Met.ofW (cc := cX8_slates) (maxL := 3) (ret := (some .int)) (by decide) rfl ?_
  intro p e s m args below meth c s₁ B hml hv
  obtain ⟨rfl, hP, hK⟩ := hv
  have hx := B.exec
  have hb := B.bytes
  have hr := B.returns
  have hts : ∀ w ∈ wsL_law, w.before _ s = true := fun w h => atoms_spec (ws := Cond.code yX8_slates cX8_slates 3 (some .int) :: wsL_law) B.pre w (List.mem_cons_of_mem _ h)
  have hown : s.vm.findClass RX8 = some m.cls := findClass_of_methodNamed B.named
  have hlocks := B.notSynchronized
  have hP : va_P D vwCl [((mm 0), .inr (7, [.int 0, .ref (mm 1), .ref (mm 2), .ref (mm 3), .ref (mm 4), .ref (mm 5), .int 0, .int 0, .int 0, .int 0, .int 0, .int 0, .int 0, .int 0, .int 0, .int (-1), .int 0, .ref (mm 6), .int 0, .ref (mm 7), .ref (mm 8), .ref (mm 9), .int fw, .ref (mm 10), .ref (mm 11), .int 0, .int 0, .ref (mm 12), .ref (mm 13), .int 0, .ref (mm 14), .ref (mm 15), .ref (mm 16)])), ((mm 1), .inl (k 0, 1227, .inl f))] s.heap := hP
  have hl := lv_entry ([.ref (mm 0)]) (n := 3) (Nat.le_of_ble_eq_true rfl)
  rw [lg_entry_eq]
  generalize (lg_sl ([.ref (mm 0)]) ++ List.replicate (3 - (lg_sl ([.ref (mm 0)])).length) Slot.unset).toArray = ls at hl ⊢
  have hl : lv_has ls 3 [(0, .ref (mm 0))] := hl
  refine lv_iconst (v := 0) hx hb dX8_slates_0 (by decide) ?_
  refine lv_istore_n (lv' := [(1, .int 0), (0, .ref (mm 0))]) hx hb dX8_slates_1 rfl hl (by decide) rfl (fun ls hl => ?_)
  refine lv_iconst (v := 0) hx hb dX8_slates_2 (by decide) ?_
  refine lv_istore_n (lv' := [(2, .int 0), (1, .int 0), (0, .ref (mm 0))]) hx hb dX8_slates_3 rfl hl (by decide) rfl (fun ls hl => ?_)
  refine lv_iload_n hx hb dX8_slates_4 rfl (lv_at hl 0 rfl) ?_
  refine lv_aload_n hx hb dX8_slates_5 rfl (lv_at hl 2 rfl) ?_
  refine va_get (D := D) (ci := 7) (v := .ref (mm 1)) (C := RX8) (T := TX8) (N := 33) hx hb hts inlX8 hown hK hP 0 rfl rfl 1 (by decide) (hts _ mw_91) (fun _ h9 => h9) rfl dX8_slates_6 ?_
  refine lv_iconst (v := 0) hx hb dX8_slates_9 (by decide) ?_
  refine va_iald hx hb hK hP 1 0 rfl rfl (vp_in_c (by decide)) dX8_slates_10 ?_
  refine lv_ni (v := 0) (hf) ?_
  refine lv_icmp_ge (tgt := 38) hx hb dX8_slates_11 (by decide) (fun _ => ?_) (fun c9 => absurd c9 (by decide))
  refine lv_iload_n hx hb dX8_slates_38 rfl (lv_at hl 1 rfl) ?_
  exact W.iret (v := 0) hx hb hr (fun t ht hW => ⟨0, rfl, rfl, ht⟩) (fun q h => by cases h) dX8_slates_39
set_option maxHeartbeats 4000000 in
set_option maxRecDepth 100000 in
theorem c_M_layersAll (l : Launch) (D : va_G) (k : Nat → ClassId) (mm : Nat → Nat) (fw : Int32) (f : Nat → Int32) (hf : f 0 = 0) : Met l yX8_layersAll (Cond.code yX8_layersAll cX8_layersAll 3 (some .int) :: wsL_law) ({ frames := 0, cells := 0, slots := 0, locals := 0 } : Room) (va_Pc [.ref (mm 0)] (pr D k [((mm 0), .inr (7, [.int 0, .ref (mm 1), .ref (mm 2), .ref (mm 3), .ref (mm 4), .ref (mm 5), .int 0, .int 0, .int 0, .int 0, .int 0, .int 0, .int 0, .int 0, .int 0, .int (-1), .int 0, .ref (mm 6), .int 0, .ref (mm 7), .ref (mm 8), .ref (mm 9), .int fw, .ref (mm 10), .ref (mm 11), .int 0, .int 0, .ref (mm 12), .ref (mm 13), .int 0, .ref (mm 14), .ref (mm 15), .ref (mm 16)])), ((mm 1), .inl (k 0, 1227, .inl f))])) (vp_Si (fun rr => rr = 0)) 0 0 (fun _ => False) := by
  refine Met.ofW (cc := cX8_layersAll) (maxL := 3) (ret := (some .int)) (by decide) rfl ?_
  intro p e s m args below meth c s₁ B hml hv
  obtain ⟨rfl, hP, hK⟩ := hv
  have hx := B.exec
  have hb := B.bytes
  have hr := B.returns
  have hts : ∀ w ∈ wsL_law, w.before _ s = true := fun w h => atoms_spec (ws := Cond.code yX8_layersAll cX8_layersAll 3 (some .int) :: wsL_law) B.pre w (List.mem_cons_of_mem _ h)
  have hown : s.vm.findClass RX8 = some m.cls := findClass_of_methodNamed B.named
  have hlocks := B.notSynchronized
  have hP : va_P D vwCl [((mm 0), .inr (7, [.int 0, .ref (mm 1), .ref (mm 2), .ref (mm 3), .ref (mm 4), .ref (mm 5), .int 0, .int 0, .int 0, .int 0, .int 0, .int 0, .int 0, .int 0, .int 0, .int (-1), .int 0, .ref (mm 6), .int 0, .ref (mm 7), .ref (mm 8), .ref (mm 9), .int fw, .ref (mm 10), .ref (mm 11), .int 0, .int 0, .ref (mm 12), .ref (mm 13), .int 0, .ref (mm 14), .ref (mm 15), .ref (mm 16)])), ((mm 1), .inl (k 0, 1227, .inl f))] s.heap := hP
  have hl := lv_entry ([.ref (mm 0)]) (n := 3) (Nat.le_of_ble_eq_true rfl)
  rw [lg_entry_eq]
  generalize (lg_sl ([.ref (mm 0)]) ++ List.replicate (3 - (lg_sl ([.ref (mm 0)])).length) Slot.unset).toArray = ls at hl ⊢
  have hl : lv_has ls 3 [(0, .ref (mm 0))] := hl
  refine lv_iconst (v := 0) hx hb dX8_layersAll_0 (by decide) ?_
  refine lv_istore_n (lv' := [(1, .int 0), (0, .ref (mm 0))]) hx hb dX8_layersAll_1 rfl hl (by decide) rfl (fun ls hl => ?_)
  refine lv_iconst (v := 0) hx hb dX8_layersAll_2 (by decide) ?_
  refine lv_istore_n (lv' := [(2, .int 0), (1, .int 0), (0, .ref (mm 0))]) hx hb dX8_layersAll_3 rfl hl (by decide) rfl (fun ls hl => ?_)
  refine lv_iload_n hx hb dX8_layersAll_4 rfl (lv_at hl 0 rfl) ?_
  refine lv_aload_n hx hb dX8_layersAll_5 rfl (lv_at hl 2 rfl) ?_
  refine va_get (D := D) (ci := 7) (v := .ref (mm 1)) (C := RX8) (T := TX8) (N := 33) hx hb hts inlX8 hown hK hP 0 rfl rfl 1 (by decide) (hts _ mw_91) (fun _ h9 => h9) rfl dX8_layersAll_6 ?_
  refine lv_iconst (v := 0) hx hb dX8_layersAll_9 (by decide) ?_
  refine va_iald hx hb hK hP 1 0 rfl rfl (vp_in_c (by decide)) dX8_layersAll_10 ?_
  refine lv_ni (v := 0) (hf) ?_
  refine lv_icmp_ge (tgt := 32) hx hb dX8_layersAll_11 (by decide) (fun _ => ?_) (fun c9 => absurd c9 (by decide))
  refine lv_iload_n hx hb dX8_layersAll_32 rfl (lv_at hl 1 rfl) ?_
  exact W.iret (v := 0) hx hb hr (fun t ht hW => ⟨0, rfl, rfl, ht⟩) (fun q h => by cases h) dX8_layersAll_33
set_option maxHeartbeats 4000000 in
set_option maxRecDepth 100000 in
theorem c_M_sumAll (l : Launch) (D : va_G) (k : Nat → ClassId) (mm : Nat → Nat) (fw : Int32) (f : Nat → Int32) (j : Int32) (hf : f 0 = 0) : Met l yX8_sumAll (Cond.code yX8_sumAll cX8_sumAll 4 (some .int) :: wsL_law) ({ frames := 0, cells := 0, slots := 0, locals := 0 } : Room) (va_Pc [.ref (mm 0), .int j] (pr D k [((mm 0), .inr (7, [.int 0, .ref (mm 1), .ref (mm 2), .ref (mm 3), .ref (mm 4), .ref (mm 5), .int 0, .int 0, .int 0, .int 0, .int 0, .int 0, .int 0, .int 0, .int 0, .int (-1), .int 0, .ref (mm 6), .int 0, .ref (mm 7), .ref (mm 8), .ref (mm 9), .int fw, .ref (mm 10), .ref (mm 11), .int 0, .int 0, .ref (mm 12), .ref (mm 13), .int 0, .ref (mm 14), .ref (mm 15), .ref (mm 16)])), ((mm 1), .inl (k 0, 1227, .inl f))])) (vp_Si (fun rr => rr = 0)) 0 0 (fun _ => False) := by
  refine Met.ofW (cc := cX8_sumAll) (maxL := 4) (ret := (some .int)) (by decide) rfl ?_
  intro p e s m args below meth c s₁ B hml hv
  obtain ⟨rfl, hP, hK⟩ := hv
  have hx := B.exec
  have hb := B.bytes
  have hr := B.returns
  have hts : ∀ w ∈ wsL_law, w.before _ s = true := fun w h => atoms_spec (ws := Cond.code yX8_sumAll cX8_sumAll 4 (some .int) :: wsL_law) B.pre w (List.mem_cons_of_mem _ h)
  have hown : s.vm.findClass RX8 = some m.cls := findClass_of_methodNamed B.named
  have hlocks := B.notSynchronized
  have hP : va_P D vwCl [((mm 0), .inr (7, [.int 0, .ref (mm 1), .ref (mm 2), .ref (mm 3), .ref (mm 4), .ref (mm 5), .int 0, .int 0, .int 0, .int 0, .int 0, .int 0, .int 0, .int 0, .int 0, .int (-1), .int 0, .ref (mm 6), .int 0, .ref (mm 7), .ref (mm 8), .ref (mm 9), .int fw, .ref (mm 10), .ref (mm 11), .int 0, .int 0, .ref (mm 12), .ref (mm 13), .int 0, .ref (mm 14), .ref (mm 15), .ref (mm 16)])), ((mm 1), .inl (k 0, 1227, .inl f))] s.heap := hP
  have hl := lv_entry ([.ref (mm 0), .int j]) (n := 4) (Nat.le_of_ble_eq_true rfl)
  rw [lg_entry_eq]
  generalize (lg_sl ([.ref (mm 0), .int j]) ++ List.replicate (4 - (lg_sl ([.ref (mm 0), .int j])).length) Slot.unset).toArray = ls at hl ⊢
  have hl : lv_has ls 4 [(0, .ref (mm 0)), (1, .int j)] := hl
  refine lv_iconst (v := 0) hx hb dX8_sumAll_0 (by decide) ?_
  refine lv_istore_n (lv' := [(2, .int 0), (0, .ref (mm 0)), (1, .int j)]) hx hb dX8_sumAll_1 rfl hl (by decide) rfl (fun ls hl => ?_)
  refine lv_iconst (v := 0) hx hb dX8_sumAll_2 (by decide) ?_
  refine lv_istore_n (lv' := [(3, .int 0), (2, .int 0), (0, .ref (mm 0)), (1, .int j)]) hx hb dX8_sumAll_3 rfl hl (by decide) rfl (fun ls hl => ?_)
  refine lv_iload_n hx hb dX8_sumAll_4 rfl (lv_at hl 0 rfl) ?_
  refine lv_aload_n hx hb dX8_sumAll_5 rfl (lv_at hl 2 rfl) ?_
  refine va_get (D := D) (ci := 7) (v := .ref (mm 1)) (C := RX8) (T := TX8) (N := 33) hx hb hts inlX8 hown hK hP 0 rfl rfl 1 (by decide) (hts _ mw_91) (fun _ h9 => h9) rfl dX8_sumAll_6 ?_
  refine lv_iconst (v := 0) hx hb dX8_sumAll_9 (by decide) ?_
  refine va_iald hx hb hK hP 1 0 rfl rfl (vp_in_c (by decide)) dX8_sumAll_10 ?_
  refine lv_ni (v := 0) (hf) ?_
  refine lv_icmp_ge (tgt := 29) hx hb dX8_sumAll_11 (by decide) (fun _ => ?_) (fun c9 => absurd c9 (by decide))
  refine lv_iload_n hx hb dX8_sumAll_29 rfl (lv_at hl 1 rfl) ?_
  exact W.iret (v := 0) hx hb hr (fun t ht hW => ⟨0, rfl, rfl, ht⟩) (fun q h => by cases h) dX8_sumAll_30
set_option maxHeartbeats 4000000 in
set_option maxRecDepth 100000 in
theorem c_M_sparkAt (l : Launch) (D : va_G) (k : Nat → ClassId) (mm : Nat → Nat) (fw : Int32) (f : Nat → Int32) (j : Int32) (hf : f 0 = 0) : Met l yX8_sparkAt (Cond.code yX8_sparkAt cX8_sparkAt 5 (some .int) :: wsL_law) ({ frames := 0, cells := 0, slots := 0, locals := 0 } : Room) (va_Pc [.ref (mm 0), .int j] (pr D k [((mm 0), .inr (7, [.int 0, .ref (mm 1), .ref (mm 2), .ref (mm 3), .ref (mm 4), .ref (mm 5), .int 0, .int 0, .int 0, .int 0, .int 0, .int 0, .int 0, .int 0, .int 0, .int (-1), .int 0, .ref (mm 6), .int 0, .ref (mm 7), .ref (mm 8), .ref (mm 9), .int fw, .ref (mm 10), .ref (mm 11), .int 0, .int 0, .ref (mm 12), .ref (mm 13), .int 0, .ref (mm 14), .ref (mm 15), .ref (mm 16)])), ((mm 1), .inl (k 0, 1227, .inl f))])) (vp_Si (fun rr => rr = (-1))) 0 0 (fun _ => False) := by
  refine Met.ofW (cc := cX8_sparkAt) (maxL := 5) (ret := (some .int)) (by decide) rfl ?_
  intro p e s m args below meth c s₁ B hml hv
  obtain ⟨rfl, hP, hK⟩ := hv
  have hx := B.exec
  have hb := B.bytes
  have hr := B.returns
  have hts : ∀ w ∈ wsL_law, w.before _ s = true := fun w h => atoms_spec (ws := Cond.code yX8_sparkAt cX8_sparkAt 5 (some .int) :: wsL_law) B.pre w (List.mem_cons_of_mem _ h)
  have hown : s.vm.findClass RX8 = some m.cls := findClass_of_methodNamed B.named
  have hlocks := B.notSynchronized
  have hP : va_P D vwCl [((mm 0), .inr (7, [.int 0, .ref (mm 1), .ref (mm 2), .ref (mm 3), .ref (mm 4), .ref (mm 5), .int 0, .int 0, .int 0, .int 0, .int 0, .int 0, .int 0, .int 0, .int 0, .int (-1), .int 0, .ref (mm 6), .int 0, .ref (mm 7), .ref (mm 8), .ref (mm 9), .int fw, .ref (mm 10), .ref (mm 11), .int 0, .int 0, .ref (mm 12), .ref (mm 13), .int 0, .ref (mm 14), .ref (mm 15), .ref (mm 16)])), ((mm 1), .inl (k 0, 1227, .inl f))] s.heap := hP
  have hl := lv_entry ([.ref (mm 0), .int j]) (n := 5) (Nat.le_of_ble_eq_true rfl)
  rw [lg_entry_eq]
  generalize (lg_sl ([.ref (mm 0), .int j]) ++ List.replicate (5 - (lg_sl ([.ref (mm 0), .int j])).length) Slot.unset).toArray = ls at hl ⊢
  have hl : lv_has ls 5 [(0, .ref (mm 0)), (1, .int j)] := hl
  refine lv_iload_n hx hb dX8_sparkAt_0 rfl (lv_at hl 1 rfl) ?_
  refine lv_istore_n (lv' := [(2, .int j), (0, .ref (mm 0)), (1, .int j)]) hx hb dX8_sparkAt_1 rfl hl (by decide) rfl (fun ls hl => ?_)
  refine lv_iconst (v := 0) hx hb dX8_sparkAt_2 (by decide) ?_
  refine lv_istore_n (lv' := [(3, .int 0), (2, .int j), (0, .ref (mm 0)), (1, .int j)]) hx hb dX8_sparkAt_3 rfl hl (by decide) rfl (fun ls hl => ?_)
  refine lv_iload_n hx hb dX8_sparkAt_4 rfl (lv_at hl 0 rfl) ?_
  refine lv_aload_n hx hb dX8_sparkAt_5 rfl (lv_at hl 2 rfl) ?_
  refine va_get (D := D) (ci := 7) (v := .ref (mm 1)) (C := RX8) (T := TX8) (N := 33) hx hb hts inlX8 hown hK hP 0 rfl rfl 1 (by decide) (hts _ mw_91) (fun _ h9 => h9) rfl dX8_sparkAt_6 ?_
  refine lv_iconst (v := 0) hx hb dX8_sparkAt_9 (by decide) ?_
  refine va_iald hx hb hK hP 1 0 rfl rfl (vp_in_c (by decide)) dX8_sparkAt_10 ?_
  refine lv_ni (v := 0) (hf) ?_
  refine lv_icmp_ge (tgt := 84) hx hb dX8_sparkAt_11 (by decide) (fun _ => ?_) (fun c9 => absurd c9 (by decide))
  refine lv_iconst (v := (-1)) hx hb dX8_sparkAt_84 (by decide) ?_
  exact W.iret (v := (-1)) hx hb hr (fun t ht hW => ⟨(-1), rfl, rfl, ht⟩) (fun q h => by cases h) dX8_sparkAt_85
set_option maxHeartbeats 4000000 in
set_option maxRecDepth 100000 in
theorem c_M_isSet (l : Launch) (D : va_G) (k : Nat → ClassId) (mm : Nat → Nat) (fw : Int32) (f : Nat → Int32) (x : Int32) (hf : f 0 = 0) : Met l yX8_isSet (Cond.code yX8_isSet cX8_isSet 3 (some .boolean) :: wsL_law) ({ frames := 1, cells := 0, slots := 0, locals := 60 } : Room) (va_Pc [.ref (mm 0), .long x.toInt64] (pr D k [((mm 0), .inr (7, [.int 0, .ref (mm 1), .ref (mm 2), .ref (mm 3), .ref (mm 4), .ref (mm 5), .int 0, .int 0, .int 0, .int 0, .int 0, .int 0, .int 0, .int 0, .int 0, .int (-1), .int 0, .ref (mm 6), .int 0, .ref (mm 7), .ref (mm 8), .ref (mm 9), .int fw, .ref (mm 10), .ref (mm 11), .int 0, .int 0, .ref (mm 12), .ref (mm 13), .int 0, .ref (mm 14), .ref (mm 15), .ref (mm 16)])), ((mm 1), .inl (k 0, 1227, .inl f))])) (vp_Si (fun rr => rr = if x.toInt = 0 then 1 else 0)) 0 0 (fun _ => False) := by
  refine Met.ofW (cc := cX8_isSet) (maxL := 3) (ret := (some .boolean)) (by decide) rfl ?_
  intro p e s m args below meth c s₁ B hml hv
  obtain ⟨rfl, hP, hK⟩ := hv
  have hx := B.exec
  have hb := B.bytes
  have hr := B.returns
  have hts : ∀ w ∈ wsL_law, w.before _ s = true := fun w h => atoms_spec (ws := Cond.code yX8_isSet cX8_isSet 3 (some .boolean) :: wsL_law) B.pre w (List.mem_cons_of_mem _ h)
  have hown : s.vm.findClass RX8 = some m.cls := findClass_of_methodNamed B.named
  have hlocks := B.notSynchronized
  have hP : va_P D vwCl [((mm 0), .inr (7, [.int 0, .ref (mm 1), .ref (mm 2), .ref (mm 3), .ref (mm 4), .ref (mm 5), .int 0, .int 0, .int 0, .int 0, .int 0, .int 0, .int 0, .int 0, .int 0, .int (-1), .int 0, .ref (mm 6), .int 0, .ref (mm 7), .ref (mm 8), .ref (mm 9), .int fw, .ref (mm 10), .ref (mm 11), .int 0, .int 0, .ref (mm 12), .ref (mm 13), .int 0, .ref (mm 14), .ref (mm 15), .ref (mm 16)])), ((mm 1), .inl (k 0, 1227, .inl f))] s.heap := hP
  have hl := lv_entry ([.ref (mm 0), .long x.toInt64]) (n := 3) (Nat.le_of_ble_eq_true rfl)
  rw [lg_entry_eq]
  generalize (lg_sl ([.ref (mm 0), .long x.toInt64]) ++ List.replicate (3 - (lg_sl ([.ref (mm 0), .long x.toInt64])).length) Slot.unset).toArray = ls at hl ⊢
  have hl : lv_has ls 3 [(0, .ref (mm 0)), (1, .long x.toInt64)] := hl
  refine lv_lload_n hx hb dX8_isSet_0 rfl (lv_at hl 1 rfl) ?_
  refine lv_lconst (v := 0) hx hb dX8_isSet_1 (by decide) ?_
  refine lv_lconst (v := 1) hx hb dX8_isSet_2 (by decide) ?_
  refine lv_aload_n hx hb dX8_isSet_3 rfl (lv_at hl 0 rfl) ?_
  refine va_get (D := D) (ci := 7) (v := .ref (mm 1)) (C := RX8) (T := TX8) (N := 33) hx hb hts inlX8 hown hK hP 0 rfl rfl 1 (by decide) (hts _ mw_91) (fun _ h9 => h9) rfl dX8_isSet_4 ?_
  refine lv_iconst (v := 0) hx hb dX8_isSet_7 (by decide) ?_
  refine va_iald hx hb hK hP 1 0 rfl rfl (vp_in_c (by decide)) dX8_isSet_8 ?_
  refine lv_ni (v := 0) (hf) ?_
  refine lv_lshl (v := 1) hx hb dX8_isSet_9 (by decide) ?_
  refine lv_lconst (v := 1) hx hb dX8_isSet_10 (by decide) ?_
  refine lv_lsub hx hb dX8_isSet_11 ?_
  refine lv_nl (v := 0) (by decide) ?_
  refine kS_i (As := [.long x.toInt64, .long 0, .long 0]) (rest := []) (cs := []) ⟨hx, hb, hml, hown, hts⟩ (c_M_within l D k x 0 0) (gS mw_294 mw_295 mw_5 mw_296) hd_yX8_within rfl rfl ⟨Nat.le_of_ble_eq_true rfl, Nat.le_of_ble_eq_true rfl⟩ hK (hP.sub (ws' := []) [] rfl) rfl hl.1 rfl (Nat.le_of_ble_eq_true rfl) dX8_isSet_12 ⟨Nat.le_of_ble_eq_true rfl, Nat.le_of_ble_eq_true rfl⟩ (fun r_1 hr_1 => ?_)
  by_cases hc_2 : 0 ≤ x.toInt ∧ x.toInt ≤ 0
  · obtain rfl : r_1 = 1 := hr_1.trans (if_pos hc_2)
    have q_3 : x = 0 := ti_of (show x.toInt = 0 from by omega)
    exact W.zret (v := 1) hx hb hr rfl (fun t ht hW => ⟨1, rfl, (by (repeat' split) <;> first | rfl | (exfalso; omega)), ht⟩) (fun q h => by cases h) dX8_isSet_15
  have hr_1 := hr_1.trans (if_neg hc_2)
  obtain rfl : r_1 = 0 := hr_1
  exact W.zret (v := 0) hx hb hr rfl (fun t ht hW => ⟨0, rfl, (by (repeat' split) <;> first | rfl | (exfalso; omega)), ht⟩) (fun q h => by cases h) dX8_isSet_15
set_option maxHeartbeats 4000000 in
set_option maxRecDepth 100000 in
theorem c_M_maySkip (l : Launch) (D : va_G) (k : Nat → ClassId) (mm : Nat → Nat) (fw : Int32) (f : Nat → Int32) (x : Int32) (hf : f 0 = 0) : Met l yX8_maySkip (Cond.code yX8_maySkip cX8_maySkip 3 (some .boolean) :: wsL_law) ({ frames := 2, cells := 0, slots := 0, locals := 120 } : Room) (va_Pc [.ref (mm 0), .long x.toInt64] (pr D k [((mm 0), .inr (7, [.int 0, .ref (mm 1), .ref (mm 2), .ref (mm 3), .ref (mm 4), .ref (mm 5), .int 0, .int 0, .int 0, .int 0, .int 0, .int 0, .int 0, .int 0, .int 0, .int (-1), .int 0, .ref (mm 6), .int 0, .ref (mm 7), .ref (mm 8), .ref (mm 9), .int fw, .ref (mm 10), .ref (mm 11), .int 0, .int 0, .ref (mm 12), .ref (mm 13), .int 0, .ref (mm 14), .ref (mm 15), .ref (mm 16)])), ((mm 1), .inl (k 0, 1227, .inl f))])) (vp_Si (fun rr => rr = if x.toInt = 0 then 1 else 0)) 0 0 (fun _ => False) := by
  refine Met.ofW (cc := cX8_maySkip) (maxL := 3) (ret := (some .boolean)) (by decide) rfl ?_
  intro p e s m args below meth c s₁ B hml hv
  obtain ⟨rfl, hP, hK⟩ := hv
  have hx := B.exec
  have hb := B.bytes
  have hr := B.returns
  have hts : ∀ w ∈ wsL_law, w.before _ s = true := fun w h => atoms_spec (ws := Cond.code yX8_maySkip cX8_maySkip 3 (some .boolean) :: wsL_law) B.pre w (List.mem_cons_of_mem _ h)
  have hown : s.vm.findClass RX8 = some m.cls := findClass_of_methodNamed B.named
  have hlocks := B.notSynchronized
  have hP : va_P D vwCl [((mm 0), .inr (7, [.int 0, .ref (mm 1), .ref (mm 2), .ref (mm 3), .ref (mm 4), .ref (mm 5), .int 0, .int 0, .int 0, .int 0, .int 0, .int 0, .int 0, .int 0, .int 0, .int (-1), .int 0, .ref (mm 6), .int 0, .ref (mm 7), .ref (mm 8), .ref (mm 9), .int fw, .ref (mm 10), .ref (mm 11), .int 0, .int 0, .ref (mm 12), .ref (mm 13), .int 0, .ref (mm 14), .ref (mm 15), .ref (mm 16)])), ((mm 1), .inl (k 0, 1227, .inl f))] s.heap := hP
  have hl := lv_entry ([.ref (mm 0), .long x.toInt64]) (n := 3) (Nat.le_of_ble_eq_true rfl)
  rw [lg_entry_eq]
  generalize (lg_sl ([.ref (mm 0), .long x.toInt64]) ++ List.replicate (3 - (lg_sl ([.ref (mm 0), .long x.toInt64])).length) Slot.unset).toArray = ls at hl ⊢
  have hl : lv_has ls 3 [(0, .ref (mm 0)), (1, .long x.toInt64)] := hl
  refine lv_aload_n hx hb dX8_maySkip_0 rfl (lv_at hl 0 rfl) ?_
  refine lv_lload_n hx hb dX8_maySkip_1 rfl (lv_at hl 1 rfl) ?_
  refine kV_i (q0 := 0) (As := [.long x.toInt64]) (rest := []) (cs := [((mm 0), .inr (7, [.int 0, .ref (mm 1), .ref (mm 2), .ref (mm 3), .ref (mm 4), .ref (mm 5), .int 0, .int 0, .int 0, .int 0, .int 0, .int 0, .int 0, .int 0, .int 0, .int (-1), .int 0, .ref (mm 6), .int 0, .ref (mm 7), .ref (mm 8), .ref (mm 9), .int fw, .ref (mm 10), .ref (mm 11), .int 0, .int 0, .ref (mm 12), .ref (mm 13), .int 0, .ref (mm 14), .ref (mm 15), .ref (mm 16)])), ((mm 1), .inl (k 0, 1227, .inl f))]) ⟨hx, hb, hml, hown, hts⟩ (c_M_isSet l D k _ fw f x hf) (gV mw_518 mw_519 mw_520 mw_5 mw_521) hd_yX8_isSet rfl rfl ⟨Nat.le_of_ble_eq_true rfl, Nat.le_of_ble_eq_true rfl⟩ hK (hP.sub (ws' := [((mm 0), .inr (7, [.int 0, .ref (mm 1), .ref (mm 2), .ref (mm 3), .ref (mm 4), .ref (mm 5), .int 0, .int 0, .int 0, .int 0, .int 0, .int 0, .int 0, .int 0, .int 0, .int (-1), .int 0, .ref (mm 6), .int 0, .ref (mm 7), .ref (mm 8), .ref (mm 9), .int fw, .ref (mm 10), .ref (mm 11), .int 0, .int 0, .ref (mm 12), .ref (mm 13), .int 0, .ref (mm 14), .ref (mm 15), .ref (mm 16)])), ((mm 1), .inl (k 0, 1227, .inl f))]) [0, 1] rfl) rfl rfl rfl rfl hl.1 rfl (Nat.le_of_ble_eq_true rfl) dX8_maySkip_2 ⟨Nat.le_of_ble_eq_true rfl, Nat.le_of_ble_eq_true rfl⟩ (fun r_1 hr_1 => ?_)
  by_cases hc_2 : x.toInt = 0
  · obtain rfl : r_1 = 1 := hr_1.trans (if_pos hc_2)
    have q_3 : x = 0 := ti_of (show x.toInt = 0 from by omega)
    refine lv_if_eq (tgt := 24) hx hb dX8_maySkip_5 (by decide) (fun c9 => absurd c9 (by decide)) (fun _ => ?_)
    refine lv_lload_n hx hb dX8_maySkip_8 rfl (lv_at hl 1 rfl) ?_
    refine lv_aload_n hx hb dX8_maySkip_9 rfl (lv_at hl 0 rfl) ?_
    refine kV_i (q0 := 0) (As := []) (rest := [.long x.toInt64]) (cs := [((mm 0), .inr (7, [.int 0, .ref (mm 1), .ref (mm 2), .ref (mm 3), .ref (mm 4), .ref (mm 5), .int 0, .int 0, .int 0, .int 0, .int 0, .int 0, .int 0, .int 0, .int 0, .int (-1), .int 0, .ref (mm 6), .int 0, .ref (mm 7), .ref (mm 8), .ref (mm 9), .int fw, .ref (mm 10), .ref (mm 11), .int 0, .int 0, .ref (mm 12), .ref (mm 13), .int 0, .ref (mm 14), .ref (mm 15), .ref (mm 16)])), ((mm 1), .inl (k 0, 1227, .inl f))]) ⟨hx, hb, hml, hown, hts⟩ (c_M_slates l D k _ fw f hf) (gV mw_522 mw_523 mw_524 mw_5 mw_525) hd_yX8_slates rfl rfl ⟨Nat.le_of_ble_eq_true rfl, Nat.le_of_ble_eq_true rfl⟩ hK (hP.sub (ws' := [((mm 0), .inr (7, [.int 0, .ref (mm 1), .ref (mm 2), .ref (mm 3), .ref (mm 4), .ref (mm 5), .int 0, .int 0, .int 0, .int 0, .int 0, .int 0, .int 0, .int 0, .int 0, .int (-1), .int 0, .ref (mm 6), .int 0, .ref (mm 7), .ref (mm 8), .ref (mm 9), .int fw, .ref (mm 10), .ref (mm 11), .int 0, .int 0, .ref (mm 12), .ref (mm 13), .int 0, .ref (mm 14), .ref (mm 15), .ref (mm 16)])), ((mm 1), .inl (k 0, 1227, .inl f))]) [0, 1] rfl) rfl rfl rfl rfl hl.1 rfl (Nat.le_of_ble_eq_true rfl) dX8_maySkip_10 ⟨Nat.le_of_ble_eq_true rfl, Nat.le_of_ble_eq_true rfl⟩ (fun r_4 hr_4 => ?_)
    obtain rfl : r_4 = 0 := hr_4
    refine lv_i2l (v := 0) hx hb dX8_maySkip_13 (by decide) ?_
    refine lv_land hx hb dX8_maySkip_14 ?_
    refine lv_nl (v := 0) (land_0 _) ?_
    refine lv_lconst (v := 0) hx hb dX8_maySkip_15 (by decide) ?_
    refine W.lcmp hx hb dX8_maySkip_16 ?_
    refine lv_ni (v := 0) (by decide) ?_
    refine lv_if_ne (tgt := 24) hx hb dX8_maySkip_17 (by decide) (fun c9 => absurd c9 (by decide)) (fun _ => ?_)
    refine lv_iconst (v := 1) hx hb dX8_maySkip_20 (by decide) ?_
    refine lv_goto (tgt := 25) hx hb dX8_maySkip_21 (by decide) ?_
    exact W.zret (v := 1) hx hb hr rfl (fun t ht hW => ⟨1, rfl, (by (repeat' split) <;> first | rfl | (exfalso; omega)), ht⟩) (fun q h => by cases h) dX8_maySkip_25
  have hr_1 := hr_1.trans (if_neg hc_2)
  obtain rfl : r_1 = 0 := hr_1
  refine lv_if_eq (tgt := 24) hx hb dX8_maySkip_5 (by decide) (fun _ => ?_) (fun c9 => absurd c9 (by decide))
  refine lv_iconst (v := 0) hx hb dX8_maySkip_24 (by decide) ?_
  exact W.zret (v := 0) hx hb hr rfl (fun t ht hW => ⟨0, rfl, (by (repeat' split) <;> first | rfl | (exfalso; omega)), ht⟩) (fun q h => by cases h) dX8_maySkip_25
set_option maxHeartbeats 4000000 in
set_option maxRecDepth 100000 in
theorem c_M_refuses (l : Launch) (D : va_G) (k : Nat → ClassId) (mm : Nat → Nat) (fw : Int32) (f : Nat → Int32) (x : Int32) (hf : f 0 = 0) (hf1 : f 1 = 0) : Met l yX8_refuses (Cond.code yX8_refuses cX8_refuses 3 (some .int) :: wsL_law) ({ frames := 2, cells := 0, slots := 0, locals := 120 } : Room) (va_Pc [.ref (mm 0), .long x.toInt64] (pr D k [((mm 0), .inr (7, [.int 0, .ref (mm 1), .ref (mm 2), .ref (mm 3), .ref (mm 4), .ref (mm 5), .int 0, .int 0, .int 0, .int 0, .int 0, .int 0, .int 0, .int 0, .int 0, .int (-1), .int 0, .ref (mm 6), .int 0, .ref (mm 7), .ref (mm 8), .ref (mm 9), .int fw, .ref (mm 10), .ref (mm 11), .int 0, .int 0, .ref (mm 12), .ref (mm 13), .int 0, .ref (mm 14), .ref (mm 15), .ref (mm 16)])), ((mm 1), .inl (k 0, 1227, .inl f))])) (vp_Si (fun rr => rr = if x.toInt = 0 then 0 else 1)) 0 0 (fun _ => False) := by
  refine Met.ofW (cc := cX8_refuses) (maxL := 3) (ret := (some .int)) (by decide) rfl ?_
  intro p e s m args below meth c s₁ B hml hv
  obtain ⟨rfl, hP, hK⟩ := hv
  have hx := B.exec
  have hb := B.bytes
  have hr := B.returns
  have hts : ∀ w ∈ wsL_law, w.before _ s = true := fun w h => atoms_spec (ws := Cond.code yX8_refuses cX8_refuses 3 (some .int) :: wsL_law) B.pre w (List.mem_cons_of_mem _ h)
  have hown : s.vm.findClass RX8 = some m.cls := findClass_of_methodNamed B.named
  have hlocks := B.notSynchronized
  have hP : va_P D vwCl [((mm 0), .inr (7, [.int 0, .ref (mm 1), .ref (mm 2), .ref (mm 3), .ref (mm 4), .ref (mm 5), .int 0, .int 0, .int 0, .int 0, .int 0, .int 0, .int 0, .int 0, .int 0, .int (-1), .int 0, .ref (mm 6), .int 0, .ref (mm 7), .ref (mm 8), .ref (mm 9), .int fw, .ref (mm 10), .ref (mm 11), .int 0, .int 0, .ref (mm 12), .ref (mm 13), .int 0, .ref (mm 14), .ref (mm 15), .ref (mm 16)])), ((mm 1), .inl (k 0, 1227, .inl f))] s.heap := hP
  have hl := lv_entry ([.ref (mm 0), .long x.toInt64]) (n := 3) (Nat.le_of_ble_eq_true rfl)
  rw [lg_entry_eq]
  generalize (lg_sl ([.ref (mm 0), .long x.toInt64]) ++ List.replicate (3 - (lg_sl ([.ref (mm 0), .long x.toInt64])).length) Slot.unset).toArray = ls at hl ⊢
  have hl : lv_has ls 3 [(0, .ref (mm 0)), (1, .long x.toInt64)] := hl
  refine lv_aload_n hx hb dX8_refuses_0 rfl (lv_at hl 0 rfl) ?_
  refine lv_lload_n hx hb dX8_refuses_1 rfl (lv_at hl 1 rfl) ?_
  refine kV_i (q0 := 0) (As := [.long x.toInt64]) (rest := []) (cs := [((mm 0), .inr (7, [.int 0, .ref (mm 1), .ref (mm 2), .ref (mm 3), .ref (mm 4), .ref (mm 5), .int 0, .int 0, .int 0, .int 0, .int 0, .int 0, .int 0, .int 0, .int 0, .int (-1), .int 0, .ref (mm 6), .int 0, .ref (mm 7), .ref (mm 8), .ref (mm 9), .int fw, .ref (mm 10), .ref (mm 11), .int 0, .int 0, .ref (mm 12), .ref (mm 13), .int 0, .ref (mm 14), .ref (mm 15), .ref (mm 16)])), ((mm 1), .inl (k 0, 1227, .inl f))]) ⟨hx, hb, hml, hown, hts⟩ (c_M_isSet l D k _ fw f x hf) (gV mw_518 mw_519 mw_520 mw_5 mw_521) hd_yX8_isSet rfl rfl ⟨Nat.le_of_ble_eq_true rfl, Nat.le_of_ble_eq_true rfl⟩ hK (hP.sub (ws' := [((mm 0), .inr (7, [.int 0, .ref (mm 1), .ref (mm 2), .ref (mm 3), .ref (mm 4), .ref (mm 5), .int 0, .int 0, .int 0, .int 0, .int 0, .int 0, .int 0, .int 0, .int 0, .int (-1), .int 0, .ref (mm 6), .int 0, .ref (mm 7), .ref (mm 8), .ref (mm 9), .int fw, .ref (mm 10), .ref (mm 11), .int 0, .int 0, .ref (mm 12), .ref (mm 13), .int 0, .ref (mm 14), .ref (mm 15), .ref (mm 16)])), ((mm 1), .inl (k 0, 1227, .inl f))]) [0, 1] rfl) rfl rfl rfl rfl hl.1 rfl (Nat.le_of_ble_eq_true rfl) dX8_refuses_2 ⟨Nat.le_of_ble_eq_true rfl, Nat.le_of_ble_eq_true rfl⟩ (fun r_1 hr_1 => ?_)
  by_cases hc_2 : x.toInt = 0
  · obtain rfl : r_1 = 1 := hr_1.trans (if_pos hc_2)
    have q_3 : x = 0 := ti_of (show x.toInt = 0 from by omega)
    refine lv_if_ne (tgt := 12) hx hb dX8_refuses_5 (by decide) (fun _ => ?_) (fun c9 => absurd c9 (by decide))
    refine lv_lload_n hx hb dX8_refuses_12 rfl (lv_at hl 1 rfl) ?_
    refine lv_aload_n hx hb dX8_refuses_13 rfl (lv_at hl 0 rfl) ?_
    refine kV_i (q0 := 0) (As := []) (rest := [.long x.toInt64]) (cs := [((mm 0), .inr (7, [.int 0, .ref (mm 1), .ref (mm 2), .ref (mm 3), .ref (mm 4), .ref (mm 5), .int 0, .int 0, .int 0, .int 0, .int 0, .int 0, .int 0, .int 0, .int 0, .int (-1), .int 0, .ref (mm 6), .int 0, .ref (mm 7), .ref (mm 8), .ref (mm 9), .int fw, .ref (mm 10), .ref (mm 11), .int 0, .int 0, .ref (mm 12), .ref (mm 13), .int 0, .ref (mm 14), .ref (mm 15), .ref (mm 16)])), ((mm 1), .inl (k 0, 1227, .inl f))]) ⟨hx, hb, hml, hown, hts⟩ (c_M_slates l D k _ fw f hf) (gV mw_522 mw_523 mw_524 mw_5 mw_525) hd_yX8_slates rfl rfl ⟨Nat.le_of_ble_eq_true rfl, Nat.le_of_ble_eq_true rfl⟩ hK (hP.sub (ws' := [((mm 0), .inr (7, [.int 0, .ref (mm 1), .ref (mm 2), .ref (mm 3), .ref (mm 4), .ref (mm 5), .int 0, .int 0, .int 0, .int 0, .int 0, .int 0, .int 0, .int 0, .int 0, .int (-1), .int 0, .ref (mm 6), .int 0, .ref (mm 7), .ref (mm 8), .ref (mm 9), .int fw, .ref (mm 10), .ref (mm 11), .int 0, .int 0, .ref (mm 12), .ref (mm 13), .int 0, .ref (mm 14), .ref (mm 15), .ref (mm 16)])), ((mm 1), .inl (k 0, 1227, .inl f))]) [0, 1] rfl) rfl rfl rfl rfl hl.1 rfl (Nat.le_of_ble_eq_true rfl) dX8_refuses_14 ⟨Nat.le_of_ble_eq_true rfl, Nat.le_of_ble_eq_true rfl⟩ (fun r_4 hr_4 => ?_)
    obtain rfl : r_4 = 0 := hr_4
    refine lv_i2l (v := 0) hx hb dX8_refuses_17 (by decide) ?_
    refine lv_land hx hb dX8_refuses_18 ?_
    refine lv_nl (v := 0) (land_0 _) ?_
    refine lv_lconst (v := 0) hx hb dX8_refuses_19 (by decide) ?_
    refine W.lcmp hx hb dX8_refuses_20 ?_
    refine lv_ni (v := 0) (by decide) ?_
    refine lv_if_eq (tgt := 28) hx hb dX8_refuses_21 (by decide) (fun _ => ?_) (fun c9 => absurd c9 (by decide))
    refine lv_aload_n hx hb dX8_refuses_28 rfl (lv_at hl 0 rfl) ?_
    refine va_get (D := D) (ci := 7) (v := .ref (mm 1)) (C := RX8) (T := TX8) (N := 33) hx hb hts inlX8 hown hK hP 0 rfl rfl 1 (by decide) (hts _ mw_91) (fun _ h9 => h9) rfl dX8_refuses_29 ?_
    refine lv_iconst (v := 1) hx hb dX8_refuses_32 (by decide) ?_
    refine va_iald hx hb hK hP 1 0 rfl rfl (vp_in_c (by decide)) dX8_refuses_33 ?_
    refine lv_ni (v := 0) (hf1) ?_
    refine lv_sipush (v := 999) hx hb dX8_refuses_34 (by decide) ?_
    refine lv_icmp_ne (tgt := 44) hx hb dX8_refuses_37 (by decide) (fun _ => ?_) (fun c9 => absurd c9 (by decide))
    refine lv_iconst (v := 0) hx hb dX8_refuses_44 (by decide) ?_
    exact W.iret (v := 0) hx hb hr (fun t ht hW => ⟨0, rfl, (by (repeat' split) <;> first | rfl | (exfalso; omega)), ht⟩) (fun q h => by cases h) dX8_refuses_45
  have hr_1 := hr_1.trans (if_neg hc_2)
  obtain rfl : r_1 = 0 := hr_1
  refine lv_if_ne (tgt := 12) hx hb dX8_refuses_5 (by decide) (fun c9 => absurd c9 (by decide)) (fun _ => ?_)
  refine lv_iconst (v := 1) hx hb dX8_refuses_8 (by decide) ?_
  refine lv_goto (tgt := 45) hx hb dX8_refuses_9 (by decide) ?_
  exact W.iret (v := 1) hx hb hr (fun t ht hW => ⟨1, rfl, (by (repeat' split) <;> first | rfl | (exfalso; omega)), ht⟩) (fun q h => by cases h) dX8_refuses_45
set_option maxHeartbeats 4000000 in
set_option maxRecDepth 100000 in
theorem c_M_goes (l : Launch) (D : va_G) (k : Nat → ClassId) (mm : Nat → Nat) (fw : Int32) (f : Nat → Int32) (g : Nat → Int32) (x : Int32) (sz : Nat) (hf : f 0 = 0) (hg : g 0 = 0) : Met l yX8_goes (Cond.code yX8_goes cX8_goes 4 none :: wsL_law) ({ frames := 0, cells := 0, slots := 0, locals := 0 } : Room) (va_Pc [.ref (mm 0), .int x] (pu D k sz [((mm 0), .inr (7, [.int 0, .ref (mm 1), .ref (mm 2), .ref (mm 3), .ref (mm 4), .ref (mm 5), .int 0, .int 0, .int 0, .int 0, .int 0, .int 0, .int 0, .int 0, .int 0, .int (-1), .int 0, .ref (mm 6), .int 0, .ref (mm 7), .ref (mm 8), .ref (mm 9), .int fw, .ref (mm 10), .ref (mm 11), .int 0, .int 0, .ref (mm 12), .ref (mm 13), .int 0, .ref (mm 14), .ref (mm 15), .ref (mm 16)])), ((mm 1), .inl (k 0, 1227, .inl f)), ((mm 2), .inl (k 0, 409, .inl g))])) (va_Qv (fun uu : (Nat → Int32) × (Nat → Int32) => uu.1 0 = 0 ∧ uu.2 0 = 0) (qu D (va_A [((mm 0), .inr (7, [.int 0, .ref (mm 1), .ref (mm 2), .ref (mm 3), .ref (mm 4), .ref (mm 5), .int 0, .int 0, .int 0, .int 0, .int 0, .int 0, .int 0, .int 0, .int 0, .int (-1), .int 0, .ref (mm 6), .int 0, .ref (mm 7), .ref (mm 8), .ref (mm 9), .int fw, .ref (mm 10), .ref (mm 11), .int 0, .int 0, .ref (mm 12), .ref (mm 13), .int 0, .ref (mm 14), .ref (mm 15), .ref (mm 16)])), ((mm 1), .inl (k 0, 1227, .inl f)), ((mm 2), .inl (k 0, 409, .inl g))] sz) (fun uu : (Nat → Int32) × (Nat → Int32) => [((mm 0), .inr (7, [.int 0, .ref (mm 1), .ref (mm 2), .ref (mm 3), .ref (mm 4), .ref (mm 5), .int 0, .int 0, .int 0, .int 0, .int 0, .int 0, .int 0, .int 0, .int 0, .int (-1), .int 0, .ref (mm 6), .int 0, .ref (mm 7), .ref (mm 8), .ref (mm 9), .int fw, .ref (mm 10), .ref (mm 11), .int 0, .int 0, .ref (mm 12), .ref (mm 13), .int 0, .ref (mm 14), .ref (mm 15), .ref (mm 16)])), ((mm 1), .inl (k 0, 1227, .inl uu.1)), ((mm 2), .inl (k 0, 409, .inl uu.2))])) (va_A [((mm 0), .inr (7, [.int 0, .ref (mm 1), .ref (mm 2), .ref (mm 3), .ref (mm 4), .ref (mm 5), .int 0, .int 0, .int 0, .int 0, .int 0, .int 0, .int 0, .int 0, .int 0, .int (-1), .int 0, .ref (mm 6), .int 0, .ref (mm 7), .ref (mm 8), .ref (mm 9), .int fw, .ref (mm 10), .ref (mm 11), .int 0, .int 0, .ref (mm 12), .ref (mm 13), .int 0, .ref (mm 14), .ref (mm 15), .ref (mm 16)])), ((mm 1), .inl (k 0, 1227, .inl f)), ((mm 2), .inl (k 0, 409, .inl g))] sz)) 0 0 (va_A [((mm 0), .inr (7, [.int 0, .ref (mm 1), .ref (mm 2), .ref (mm 3), .ref (mm 4), .ref (mm 5), .int 0, .int 0, .int 0, .int 0, .int 0, .int 0, .int 0, .int 0, .int 0, .int (-1), .int 0, .ref (mm 6), .int 0, .ref (mm 7), .ref (mm 8), .ref (mm 9), .int fw, .ref (mm 10), .ref (mm 11), .int 0, .int 0, .ref (mm 12), .ref (mm 13), .int 0, .ref (mm 14), .ref (mm 15), .ref (mm 16)])), ((mm 1), .inl (k 0, 1227, .inl f)), ((mm 2), .inl (k 0, 409, .inl g))] sz) := by
  refine Met.ofW (cc := cX8_goes) (maxL := 4) (ret := none) (by decide) rfl ?_
  intro p e s m args below meth c s₁ B hml hv
  obtain ⟨rfl, hsz, hP, hK, hD0⟩ := hv
  have hx := B.exec
  have hb := B.bytes
  have hr := B.returns
  have hts : ∀ w ∈ wsL_law, w.before _ s = true := fun w h => atoms_spec (ws := Cond.code yX8_goes cX8_goes 4 none :: wsL_law) B.pre w (List.mem_cons_of_mem _ h)
  have hown : s.vm.findClass RX8 = some m.cls := findClass_of_methodNamed B.named
  have hlocks := B.notSynchronized
  subst hsz
  have hD := hD0.self (sz := s.heap.size)
  generalize hAe : va_A [((mm 0), .inr (7, [.int 0, .ref (mm 1), .ref (mm 2), .ref (mm 3), .ref (mm 4), .ref (mm 5), .int 0, .int 0, .int 0, .int 0, .int 0, .int 0, .int 0, .int 0, .int 0, .int (-1), .int 0, .ref (mm 6), .int 0, .ref (mm 7), .ref (mm 8), .ref (mm 9), .int fw, .ref (mm 10), .ref (mm 11), .int 0, .int 0, .ref (mm 12), .ref (mm 13), .int 0, .ref (mm 14), .ref (mm 15), .ref (mm 16)])), ((mm 1), .inl (k 0, 1227, .inl f)), ((mm 2), .inl (k 0, 409, .inl g))] s.heap.size = A at hD ⊢
  have hA : ∀ q : Nat, s.heap.size ≤ q → A q := fun q h => by rw [← hAe]; exact Or.inr h
  have hS : va_S A s.heap s.heap [] := va_S.rf
  have hP : va_P D vwCl [((mm 0), .inr (7, [.int 0, .ref (mm 1), .ref (mm 2), .ref (mm 3), .ref (mm 4), .ref (mm 5), .int 0, .int 0, .int 0, .int 0, .int 0, .int 0, .int 0, .int 0, .int 0, .int (-1), .int 0, .ref (mm 6), .int 0, .ref (mm 7), .ref (mm 8), .ref (mm 9), .int fw, .ref (mm 10), .ref (mm 11), .int 0, .int 0, .ref (mm 12), .ref (mm 13), .int 0, .ref (mm 14), .ref (mm 15), .ref (mm 16)])), ((mm 1), .inl (k 0, 1227, .inl f)), ((mm 2), .inl (k 0, 409, .inl g))] s.heap := hP
  have hl := lv_entry ([.ref (mm 0), .int x]) (n := 4) (Nat.le_of_ble_eq_true rfl)
  rw [lg_entry_eq]
  generalize (lg_sl ([.ref (mm 0), .int x]) ++ List.replicate (4 - (lg_sl ([.ref (mm 0), .int x])).length) Slot.unset).toArray = ls at hl ⊢
  have hl : lv_has ls 4 [(0, .ref (mm 0)), (1, .int x)] := hl
  refine lv_iconst (v := 0) hx hb dX8_goes_0 (by decide) ?_
  refine lv_istore_n (lv' := [(2, .int 0), (0, .ref (mm 0)), (1, .int x)]) hx hb dX8_goes_1 rfl hl (by decide) rfl (fun ls hl => ?_)
  refine W_loop (σ := Int32 × (Nat → Int32)) (fun xx H locs ls => (0 ≤ xx.1.toInt ∧ xx.1.toInt ≤ 409) ∧ (xx.2 0 = 0) ∧ va_P D vwCl [((mm 0), .inr (7, [.int 0, .ref (mm 1), .ref (mm 2), .ref (mm 3), .ref (mm 4), .ref (mm 5), .int 0, .int 0, .int 0, .int 0, .int 0, .int 0, .int 0, .int 0, .int 0, .int (-1), .int 0, .ref (mm 6), .int 0, .ref (mm 7), .ref (mm 8), .ref (mm 9), .int fw, .ref (mm 10), .ref (mm 11), .int 0, .int 0, .ref (mm 12), .ref (mm 13), .int 0, .ref (mm 14), .ref (mm 15), .ref (mm 16)])), ((mm 1), .inl (k 0, 1227, .inl f)), ((mm 2), .inl (k 0, 409, .inl xx.2))] H ∧ va_D A [((mm 0), .inr (7, [.int 0, .ref (mm 1), .ref (mm 2), .ref (mm 3), .ref (mm 4), .ref (mm 5), .int 0, .int 0, .int 0, .int 0, .int 0, .int 0, .int 0, .int 0, .int 0, .int (-1), .int 0, .ref (mm 6), .int 0, .ref (mm 7), .ref (mm 8), .ref (mm 9), .int fw, .ref (mm 10), .ref (mm 11), .int 0, .int 0, .ref (mm 12), .ref (mm 13), .int 0, .ref (mm 14), .ref (mm 15), .ref (mm 16)])), ((mm 1), .inl (k 0, 1227, .inl f)), ((mm 2), .inl (k 0, 409, .inl xx.2))] ∧ va_S A s.heap H locs ∧ lv_has ls 4 [(2, .int xx.1), (0, .ref (mm 0)), (1, .int x)]) (fun xx => (409 - xx.1.toInt).toNat) ?_ (0, g) _ _ ls ⟨(show 0 ≤ (0 : Int32).toInt ∧ (0 : Int32).toInt ≤ 409 from ⟨by decide, by decide⟩), hg, hP.sub [0, 1, 2] rfl, hD.sub [0, 1, 2] (by decide) rfl, hS, lv_sub hl [0, 1, 2] rfl⟩
  intro xx H locs ls hI ih
  obtain ⟨i_1, f_2⟩ := xx
  obtain ⟨h_3, h_4, hP, hD, hS, hl⟩ := hI
  have h_3 : 0 ≤ i_1.toInt ∧ i_1.toInt ≤ 409 := h_3
  have h_4 : f_2 0 = 0 := h_4
  obtain ⟨h_3a, h_3b⟩ := h_3
  have hP : va_P D vwCl [((mm 0), .inr (7, [.int 0, .ref (mm 1), .ref (mm 2), .ref (mm 3), .ref (mm 4), .ref (mm 5), .int 0, .int 0, .int 0, .int 0, .int 0, .int 0, .int 0, .int 0, .int 0, .int (-1), .int 0, .ref (mm 6), .int 0, .ref (mm 7), .ref (mm 8), .ref (mm 9), .int fw, .ref (mm 10), .ref (mm 11), .int 0, .int 0, .ref (mm 12), .ref (mm 13), .int 0, .ref (mm 14), .ref (mm 15), .ref (mm 16)])), ((mm 1), .inl (k 0, 1227, .inl f)), ((mm 2), .inl (k 0, 409, .inl f_2))] H := hP
  have hD : va_D A [((mm 0), .inr (7, [.int 0, .ref (mm 1), .ref (mm 2), .ref (mm 3), .ref (mm 4), .ref (mm 5), .int 0, .int 0, .int 0, .int 0, .int 0, .int 0, .int 0, .int 0, .int 0, .int (-1), .int 0, .ref (mm 6), .int 0, .ref (mm 7), .ref (mm 8), .ref (mm 9), .int fw, .ref (mm 10), .ref (mm 11), .int 0, .int 0, .ref (mm 12), .ref (mm 13), .int 0, .ref (mm 14), .ref (mm 15), .ref (mm 16)])), ((mm 1), .inl (k 0, 1227, .inl f)), ((mm 2), .inl (k 0, 409, .inl f_2))] := hD
  have hl : lv_has ls 4 [(2, .int i_1), (0, .ref (mm 0)), (1, .int x)] := hl
  refine lv_iload_n hx hb dX8_goes_2 rfl (lv_at hl 0 rfl) ?_
  refine lv_sipush (v := 409) hx hb dX8_goes_3 (by decide) ?_
  refine lv_icmp_ge (tgt := 27) hx hb dX8_goes_6 (by decide) (fun c_5 => ?_) (fun c_5 => ?_)
  · have c_5 : 409 ≤ i_1.toInt := ti_le c_5
    have qc_5 : i_1 = 409 := ti_of (show i_1.toInt = 409 from by omega)
    refine lv_iconst (v := 0) hx hb dX8_goes_27 (by decide) ?_
    refine lv_istore_n (lv' := [(2, .int 0), (0, .ref (mm 0)), (1, .int x)]) hx hb dX8_goes_28 rfl hl (by decide) rfl (fun ls hl => ?_)
    refine lv_iload_n hx hb dX8_goes_29 rfl (lv_at hl 0 rfl) ?_
    refine lv_aload_n hx hb dX8_goes_30 rfl (lv_at hl 1 rfl) ?_
    refine va_get (D := D) (ci := 7) (v := .ref (mm 1)) (C := RX8) (T := TX8) (N := 33) hx hb hts inlX8 hown hK hP 0 rfl rfl 1 (by decide) (hts _ mw_91) (fun _ h9 => h9) rfl dX8_goes_31 ?_
    refine lv_iconst (v := 0) hx hb dX8_goes_34 (by decide) ?_
    refine va_iald hx hb hK hP 1 0 rfl rfl (vp_in_c (by decide)) dX8_goes_35 ?_
    refine lv_ni (v := 0) (hf) ?_
    refine lv_icmp_ge (tgt := 137) hx hb dX8_goes_36 (by decide) (fun _ => ?_) (fun c9 => absurd c9 (by decide))
    refine lv_iconst (v := 0) hx hb dX8_goes_137 (by decide) ?_
    refine lv_istore_n (lv' := [(2, .int 0), (0, .ref (mm 0)), (1, .int x)]) hx hb dX8_goes_138 rfl hl (by decide) rfl (fun ls hl => ?_)
    refine W_loop (σ := Int32 × (Nat → Int32)) (fun xx H locs ls => (0 ≤ xx.1.toInt ∧ xx.1.toInt ≤ 409) ∧ (xx.2 0 = 0) ∧ va_P D vwCl [((mm 0), .inr (7, [.int 0, .ref (mm 1), .ref (mm 2), .ref (mm 3), .ref (mm 4), .ref (mm 5), .int 0, .int 0, .int 0, .int 0, .int 0, .int 0, .int 0, .int 0, .int 0, .int (-1), .int 0, .ref (mm 6), .int 0, .ref (mm 7), .ref (mm 8), .ref (mm 9), .int fw, .ref (mm 10), .ref (mm 11), .int 0, .int 0, .ref (mm 12), .ref (mm 13), .int 0, .ref (mm 14), .ref (mm 15), .ref (mm 16)])), ((mm 1), .inl (k 0, 1227, .inl xx.2)), ((mm 2), .inl (k 0, 409, .inl f_2))] H ∧ va_D A [((mm 0), .inr (7, [.int 0, .ref (mm 1), .ref (mm 2), .ref (mm 3), .ref (mm 4), .ref (mm 5), .int 0, .int 0, .int 0, .int 0, .int 0, .int 0, .int 0, .int 0, .int 0, .int (-1), .int 0, .ref (mm 6), .int 0, .ref (mm 7), .ref (mm 8), .ref (mm 9), .int fw, .ref (mm 10), .ref (mm 11), .int 0, .int 0, .ref (mm 12), .ref (mm 13), .int 0, .ref (mm 14), .ref (mm 15), .ref (mm 16)])), ((mm 1), .inl (k 0, 1227, .inl xx.2)), ((mm 2), .inl (k 0, 409, .inl f_2))] ∧ va_S A s.heap H locs ∧ lv_has ls 4 [(2, .int xx.1), (0, .ref (mm 0)), (1, .int x)]) (fun xx => (409 - xx.1.toInt).toNat) ?_ (0, f) _ _ ls ⟨(show 0 ≤ (0 : Int32).toInt ∧ (0 : Int32).toInt ≤ 409 from ⟨by decide, by decide⟩), hf, hP.sub [0, 1, 2] rfl, hD.sub [0, 1, 2] (by decide) rfl, hS, lv_sub hl [0, 1, 2] rfl⟩
    intro xx H locs ls hI ih
    obtain ⟨i_6, f_7⟩ := xx
    obtain ⟨h_8, h_9, hP, hD, hS, hl⟩ := hI
    have h_8 : 0 ≤ i_6.toInt ∧ i_6.toInt ≤ 409 := h_8
    have h_9 : f_7 0 = 0 := h_9
    obtain ⟨h_8a, h_8b⟩ := h_8
    have hP : va_P D vwCl [((mm 0), .inr (7, [.int 0, .ref (mm 1), .ref (mm 2), .ref (mm 3), .ref (mm 4), .ref (mm 5), .int 0, .int 0, .int 0, .int 0, .int 0, .int 0, .int 0, .int 0, .int 0, .int (-1), .int 0, .ref (mm 6), .int 0, .ref (mm 7), .ref (mm 8), .ref (mm 9), .int fw, .ref (mm 10), .ref (mm 11), .int 0, .int 0, .ref (mm 12), .ref (mm 13), .int 0, .ref (mm 14), .ref (mm 15), .ref (mm 16)])), ((mm 1), .inl (k 0, 1227, .inl f_7)), ((mm 2), .inl (k 0, 409, .inl f_2))] H := hP
    have hD : va_D A [((mm 0), .inr (7, [.int 0, .ref (mm 1), .ref (mm 2), .ref (mm 3), .ref (mm 4), .ref (mm 5), .int 0, .int 0, .int 0, .int 0, .int 0, .int 0, .int 0, .int 0, .int 0, .int (-1), .int 0, .ref (mm 6), .int 0, .ref (mm 7), .ref (mm 8), .ref (mm 9), .int fw, .ref (mm 10), .ref (mm 11), .int 0, .int 0, .ref (mm 12), .ref (mm 13), .int 0, .ref (mm 14), .ref (mm 15), .ref (mm 16)])), ((mm 1), .inl (k 0, 1227, .inl f_7)), ((mm 2), .inl (k 0, 409, .inl f_2))] := hD
    have hl : lv_has ls 4 [(2, .int i_6), (0, .ref (mm 0)), (1, .int x)] := hl
    refine lv_iload_n hx hb dX8_goes_139 rfl (lv_at hl 0 rfl) ?_
    refine lv_sipush (v := 409) hx hb dX8_goes_140 (by decide) ?_
    refine lv_icmp_ge (tgt := 164) hx hb dX8_goes_143 (by decide) (fun c_10 => ?_) (fun c_10 => ?_)
    · have c_10 : 409 ≤ i_6.toInt := ti_le c_10
      have qc_10 : i_6 = 409 := ti_of (show i_6.toInt = 409 from by omega)
      refine lv_aload_n hx hb dX8_goes_164 rfl (lv_at hl 1 rfl) ?_
      refine va_get (D := D) (ci := 7) (v := .ref (mm 1)) (C := RX8) (T := TX8) (N := 33) hx hb hts inlX8 hown hK hP 0 rfl rfl 1 (by decide) (hts _ mw_91) (fun _ h9 => h9) rfl dX8_goes_165 ?_
      refine lv_iconst (v := 1) hx hb dX8_goes_168 (by decide) ?_
      refine lv_dup2_11 hx hb dX8_goes_169 rfl rfl ?_
      refine va_iald hx hb hK hP 1 0 rfl rfl (vp_in_c (by decide)) dX8_goes_170 ?_
      refine lv_topi (fun z_11 ez_11 => ?_)
      refine lv_iconst (v := 1) hx hb dX8_goes_171 (by decide) ?_
      refine lv_iadd hx hb dX8_goes_172 ?_
      refine lv_topi (fun z_12 ez_12 => ?_)
      refine va_iast hx hb hK hP hD hS 1 0 rfl rfl (vp_in_c (by decide)) dX8_goes_173 (fun H locs hP hD hS => ?_)
      have hP : va_P D vwCl [((mm 0), .inr (7, [.int 0, .ref (mm 1), .ref (mm 2), .ref (mm 3), .ref (mm 4), .ref (mm 5), .int 0, .int 0, .int 0, .int 0, .int 0, .int 0, .int 0, .int 0, .int 0, .int (-1), .int 0, .ref (mm 6), .int 0, .ref (mm 7), .ref (mm 8), .ref (mm 9), .int fw, .ref (mm 10), .ref (mm 11), .int 0, .int 0, .ref (mm 12), .ref (mm 13), .int 0, .ref (mm 14), .ref (mm 15), .ref (mm 16)])), ((mm 1), .inl (k 0, 1227, .inl (upd f_7 (1 : Int32).toNatClampNeg z_12))), ((mm 2), .inl (k 0, 409, .inl f_2))] H := hP
      have hD : va_D A [((mm 0), .inr (7, [.int 0, .ref (mm 1), .ref (mm 2), .ref (mm 3), .ref (mm 4), .ref (mm 5), .int 0, .int 0, .int 0, .int 0, .int 0, .int 0, .int 0, .int 0, .int 0, .int (-1), .int 0, .ref (mm 6), .int 0, .ref (mm 7), .ref (mm 8), .ref (mm 9), .int fw, .ref (mm 10), .ref (mm 11), .int 0, .int 0, .ref (mm 12), .ref (mm 13), .int 0, .ref (mm 14), .ref (mm 15), .ref (mm 16)])), ((mm 1), .inl (k 0, 1227, .inl (upd f_7 (1 : Int32).toNatClampNeg z_12))), ((mm 2), .inl (k 0, 409, .inl f_2))] := hD
      generalize ef_13 : (upd f_7 (1 : Int32).toNatClampNeg z_12) = f_13 at hP hD
      have hf_13_0 : f_13 0 = 0 := by rw [← ef_13]; exact (pk_un (by decide)).trans h_9
      have hP9 := hP.sub (ws' := [((mm 0), .inr (7, [.int 0, .ref (mm 1), .ref (mm 2), .ref (mm 3), .ref (mm 4), .ref (mm 5), .int 0, .int 0, .int 0, .int 0, .int 0, .int 0, .int 0, .int 0, .int 0, .int (-1), .int 0, .ref (mm 6), .int 0, .ref (mm 7), .ref (mm 8), .ref (mm 9), .int fw, .ref (mm 10), .ref (mm 11), .int 0, .int 0, .ref (mm 12), .ref (mm 13), .int 0, .ref (mm 14), .ref (mm 15), .ref (mm 16)])), ((mm 1), .inl (k 0, 1227, .inl f_13)), ((mm 2), .inl (k 0, 409, .inl f_2))]) [0, 1, 2] rfl
      have hD9 := hD.sub (ws' := [((mm 0), .inr (7, [.int 0, .ref (mm 1), .ref (mm 2), .ref (mm 3), .ref (mm 4), .ref (mm 5), .int 0, .int 0, .int 0, .int 0, .int 0, .int 0, .int 0, .int 0, .int 0, .int (-1), .int 0, .ref (mm 6), .int 0, .ref (mm 7), .ref (mm 8), .ref (mm 9), .int fw, .ref (mm 10), .ref (mm 11), .int 0, .int 0, .ref (mm 12), .ref (mm 13), .int 0, .ref (mm 14), .ref (mm 15), .ref (mm 16)])), ((mm 1), .inl (k 0, 1227, .inl f_13)), ((mm 2), .inl (k 0, 409, .inl f_2))]) [0, 1, 2] (by decide) rfl
      exact W.vret hx hb hr (fun t ht hW => ⟨⟨(f_13, f_2), rfl, ⟨hf_13_0, h_4⟩, by rw [ht]; exact hP9, hD9⟩, hS.F ht⟩) hS.2.2 dX8_goes_174
    · have c_10 : i_6.toInt < 409 := ti_nle c_10
      refine lv_aload_n hx hb dX8_goes_146 rfl (lv_at hl 1 rfl) ?_
      refine va_get (D := D) (ci := 7) (v := .ref (mm 1)) (C := RX8) (T := TX8) (N := 33) hx hb hts inlX8 hown hK hP 0 rfl rfl 1 (by decide) (hts _ mw_91) (fun _ h9 => h9) rfl dX8_goes_147 ?_
      refine lv_iload_n hx hb dX8_goes_150 rfl (lv_at hl 0 rfl) ?_
      refine lv_aload_n hx hb dX8_goes_151 rfl (lv_at hl 1 rfl) ?_
      refine va_get (D := D) (ci := 7) (v := .ref (mm 2)) (C := RX8) (T := TX8) (N := 33) hx hb hts inlX8 hown hK hP 0 rfl rfl 2 (by decide) (hts _ mw_92) (fun _ h9 => h9) rfl dX8_goes_152 ?_
      refine lv_iload_n hx hb dX8_goes_155 rfl (lv_at hl 0 rfl) ?_
      refine va_iald hx hb hK hP 2 0 rfl rfl (vp_in_o (by omega) (by omega)) dX8_goes_156 ?_
      refine lv_topi (fun z_14 ez_14 => ?_)
      refine va_iast hx hb hK hP hD hS 1 0 rfl rfl (vp_in_o (by omega) (by omega)) dX8_goes_157 (fun H locs hP hD hS => ?_)
      have hP : va_P D vwCl [((mm 0), .inr (7, [.int 0, .ref (mm 1), .ref (mm 2), .ref (mm 3), .ref (mm 4), .ref (mm 5), .int 0, .int 0, .int 0, .int 0, .int 0, .int 0, .int 0, .int 0, .int 0, .int (-1), .int 0, .ref (mm 6), .int 0, .ref (mm 7), .ref (mm 8), .ref (mm 9), .int fw, .ref (mm 10), .ref (mm 11), .int 0, .int 0, .ref (mm 12), .ref (mm 13), .int 0, .ref (mm 14), .ref (mm 15), .ref (mm 16)])), ((mm 1), .inl (k 0, 1227, .inl (upd f_7 i_6.toNatClampNeg z_14))), ((mm 2), .inl (k 0, 409, .inl f_2))] H := hP
      have hD : va_D A [((mm 0), .inr (7, [.int 0, .ref (mm 1), .ref (mm 2), .ref (mm 3), .ref (mm 4), .ref (mm 5), .int 0, .int 0, .int 0, .int 0, .int 0, .int 0, .int 0, .int 0, .int 0, .int (-1), .int 0, .ref (mm 6), .int 0, .ref (mm 7), .ref (mm 8), .ref (mm 9), .int fw, .ref (mm 10), .ref (mm 11), .int 0, .int 0, .ref (mm 12), .ref (mm 13), .int 0, .ref (mm 14), .ref (mm 15), .ref (mm 16)])), ((mm 1), .inl (k 0, 1227, .inl (upd f_7 i_6.toNatClampNeg z_14))), ((mm 2), .inl (k 0, 409, .inl f_2))] := hD
      generalize ef_15 : (upd f_7 i_6.toNatClampNeg z_14) = f_15 at hP hD
      have hf_15_0 : f_15 0 = 0 := by rw [← ef_15]; exact upd_at h_9 (fun h => by rw [ez_14, ti_cl, show i_6.toInt.toNat = 0 from by omega]; exact h_4) (by omega)
      obtain ⟨z_16, ez_16⟩ : ∃ y : Int32, y = i_6 + 1 := ⟨_, rfl⟩
      have tz_16 : z_16.toInt = i_6.toInt + 1 := by rw [ez_16]; exact ti_addc (by decide) (by omega) (by omega)
      refine lv_iinc (v := z_16) (lv' := [(2, .int z_16), (0, .ref (mm 0)), (1, .int x)]) hx hb dX8_goes_158 hl (k := 0) rfl (ez_16.symm) (by decide) rfl (fun ls hl => ?_)
      refine lv_goto (tgt := 139) hx hb dX8_goes_161 (by decide) ?_
      exact ih (z_16, f_15) _ _ ls (by show (409 - z_16.toInt).toNat < (409 - i_6.toInt).toNat; omega) ⟨(show 0 ≤ z_16.toInt ∧ z_16.toInt ≤ 409 from ⟨by omega, by omega⟩), hf_15_0, hP.sub [0, 1, 2] rfl, hD.sub [0, 1, 2] (by decide) rfl, hS, lv_sub hl [0, 1, 2] rfl⟩
  · have c_5 : i_1.toInt < 409 := ti_nle c_5
    refine lv_aload_n hx hb dX8_goes_9 rfl (lv_at hl 1 rfl) ?_
    refine va_get (D := D) (ci := 7) (v := .ref (mm 2)) (C := RX8) (T := TX8) (N := 33) hx hb hts inlX8 hown hK hP 0 rfl rfl 2 (by decide) (hts _ mw_92) (fun _ h9 => h9) rfl dX8_goes_10 ?_
    refine lv_iload_n hx hb dX8_goes_13 rfl (lv_at hl 0 rfl) ?_
    refine lv_aload_n hx hb dX8_goes_14 rfl (lv_at hl 1 rfl) ?_
    refine va_get (D := D) (ci := 7) (v := .ref (mm 1)) (C := RX8) (T := TX8) (N := 33) hx hb hts inlX8 hown hK hP 0 rfl rfl 1 (by decide) (hts _ mw_91) (fun _ h9 => h9) rfl dX8_goes_15 ?_
    refine lv_iload_n hx hb dX8_goes_18 rfl (lv_at hl 0 rfl) ?_
    refine va_iald hx hb hK hP 1 0 rfl rfl (vp_in_o (by omega) (by omega)) dX8_goes_19 ?_
    refine lv_topi (fun z_17 ez_17 => ?_)
    refine va_iast hx hb hK hP hD hS 2 0 rfl rfl (vp_in_o (by omega) (by omega)) dX8_goes_20 (fun H locs hP hD hS => ?_)
    have hP : va_P D vwCl [((mm 0), .inr (7, [.int 0, .ref (mm 1), .ref (mm 2), .ref (mm 3), .ref (mm 4), .ref (mm 5), .int 0, .int 0, .int 0, .int 0, .int 0, .int 0, .int 0, .int 0, .int 0, .int (-1), .int 0, .ref (mm 6), .int 0, .ref (mm 7), .ref (mm 8), .ref (mm 9), .int fw, .ref (mm 10), .ref (mm 11), .int 0, .int 0, .ref (mm 12), .ref (mm 13), .int 0, .ref (mm 14), .ref (mm 15), .ref (mm 16)])), ((mm 1), .inl (k 0, 1227, .inl f)), ((mm 2), .inl (k 0, 409, .inl (upd f_2 i_1.toNatClampNeg z_17)))] H := hP
    have hD : va_D A [((mm 0), .inr (7, [.int 0, .ref (mm 1), .ref (mm 2), .ref (mm 3), .ref (mm 4), .ref (mm 5), .int 0, .int 0, .int 0, .int 0, .int 0, .int 0, .int 0, .int 0, .int 0, .int (-1), .int 0, .ref (mm 6), .int 0, .ref (mm 7), .ref (mm 8), .ref (mm 9), .int fw, .ref (mm 10), .ref (mm 11), .int 0, .int 0, .ref (mm 12), .ref (mm 13), .int 0, .ref (mm 14), .ref (mm 15), .ref (mm 16)])), ((mm 1), .inl (k 0, 1227, .inl f)), ((mm 2), .inl (k 0, 409, .inl (upd f_2 i_1.toNatClampNeg z_17)))] := hD
    generalize ef_18 : (upd f_2 i_1.toNatClampNeg z_17) = f_18 at hP hD
    have hf_18_0 : f_18 0 = 0 := by rw [← ef_18]; exact upd_at h_4 (fun h => by rw [ez_17, ti_cl, show i_1.toInt.toNat = 0 from by omega]; exact hf) (by omega)
    obtain ⟨z_19, ez_19⟩ : ∃ y : Int32, y = i_1 + 1 := ⟨_, rfl⟩
    have tz_19 : z_19.toInt = i_1.toInt + 1 := by rw [ez_19]; exact ti_addc (by decide) (by omega) (by omega)
    refine lv_iinc (v := z_19) (lv' := [(2, .int z_19), (0, .ref (mm 0)), (1, .int x)]) hx hb dX8_goes_21 hl (k := 0) rfl (ez_19.symm) (by decide) rfl (fun ls hl => ?_)
    refine lv_goto (tgt := 2) hx hb dX8_goes_24 (by decide) ?_
    exact ih (z_19, f_18) _ _ ls (by show (409 - z_19.toInt).toNat < (409 - i_1.toInt).toNat; omega) ⟨(show 0 ≤ z_19.toInt ∧ z_19.toInt ≤ 409 from ⟨by omega, by omega⟩), hf_18_0, hP.sub [0, 1, 2] rfl, hD.sub [0, 1, 2] (by decide) rfl, hS, lv_sub hl [0, 1, 2] rfl⟩
set_option maxHeartbeats 4000000 in
set_option maxRecDepth 100000 in
theorem c_M_keeps0 (l : Launch) (D : va_G) (k : Nat → ClassId) (mm : Nat → Nat) (fw : Int32) (f : Nat → Int32) (kp : Nat → Int32) (sz : Nat) (hf : f 0 = 0) (hk : KZ kp) : Met l yX8_keeps (Cond.code yX8_keeps cX8_keeps 3 none :: wsL_law) ({ frames := 0, cells := 0, slots := 0, locals := 0 } : Room) (va_Pc [.ref (mm 0), .int 0] (pu D k sz [((mm 0), .inr (7, [.int 0, .ref (mm 1), .ref (mm 2), .ref (mm 3), .ref (mm 4), .ref (mm 5), .int 0, .int 0, .int 0, .int 0, .int 0, .int 0, .int 0, .int 0, .int 0, .int (-1), .int 0, .ref (mm 6), .int 0, .ref (mm 7), .ref (mm 8), .ref (mm 9), .int fw, .ref (mm 10), .ref (mm 11), .int 0, .int 0, .ref (mm 12), .ref (mm 13), .int 0, .ref (mm 14), .ref (mm 15), .ref (mm 16)])), ((mm 1), .inl (k 0, 1227, .inl f)), ((mm 6), .inl (k 0, 2454, .inl kp))])) (va_Qv (fun uu : Nat → Int32 => KZ uu) (qu D (va_A [((mm 0), .inr (7, [.int 0, .ref (mm 1), .ref (mm 2), .ref (mm 3), .ref (mm 4), .ref (mm 5), .int 0, .int 0, .int 0, .int 0, .int 0, .int 0, .int 0, .int 0, .int 0, .int (-1), .int 0, .ref (mm 6), .int 0, .ref (mm 7), .ref (mm 8), .ref (mm 9), .int fw, .ref (mm 10), .ref (mm 11), .int 0, .int 0, .ref (mm 12), .ref (mm 13), .int 0, .ref (mm 14), .ref (mm 15), .ref (mm 16)])), ((mm 1), .inl (k 0, 1227, .inl f)), ((mm 6), .inl (k 0, 2454, .inl kp))] sz) (fun uu : Nat → Int32 => [((mm 0), .inr (7, [.int 0, .ref (mm 1), .ref (mm 2), .ref (mm 3), .ref (mm 4), .ref (mm 5), .int 0, .int 0, .int 0, .int 0, .int 0, .int 0, .int 0, .int 0, .int 0, .int (-1), .int 0, .ref (mm 6), .int 0, .ref (mm 7), .ref (mm 8), .ref (mm 9), .int fw, .ref (mm 10), .ref (mm 11), .int 0, .int 0, .ref (mm 12), .ref (mm 13), .int 0, .ref (mm 14), .ref (mm 15), .ref (mm 16)])), ((mm 1), .inl (k 0, 1227, .inl f)), ((mm 6), .inl (k 0, 2454, .inl uu))])) (va_A [((mm 0), .inr (7, [.int 0, .ref (mm 1), .ref (mm 2), .ref (mm 3), .ref (mm 4), .ref (mm 5), .int 0, .int 0, .int 0, .int 0, .int 0, .int 0, .int 0, .int 0, .int 0, .int (-1), .int 0, .ref (mm 6), .int 0, .ref (mm 7), .ref (mm 8), .ref (mm 9), .int fw, .ref (mm 10), .ref (mm 11), .int 0, .int 0, .ref (mm 12), .ref (mm 13), .int 0, .ref (mm 14), .ref (mm 15), .ref (mm 16)])), ((mm 1), .inl (k 0, 1227, .inl f)), ((mm 6), .inl (k 0, 2454, .inl kp))] sz)) 0 0 (va_A [((mm 0), .inr (7, [.int 0, .ref (mm 1), .ref (mm 2), .ref (mm 3), .ref (mm 4), .ref (mm 5), .int 0, .int 0, .int 0, .int 0, .int 0, .int 0, .int 0, .int 0, .int 0, .int (-1), .int 0, .ref (mm 6), .int 0, .ref (mm 7), .ref (mm 8), .ref (mm 9), .int fw, .ref (mm 10), .ref (mm 11), .int 0, .int 0, .ref (mm 12), .ref (mm 13), .int 0, .ref (mm 14), .ref (mm 15), .ref (mm 16)])), ((mm 1), .inl (k 0, 1227, .inl f)), ((mm 6), .inl (k 0, 2454, .inl kp))] sz) := by
  refine Met.ofW (cc := cX8_keeps) (maxL := 3) (ret := none) (by decide) rfl ?_
  intro p e s m args below meth c s₁ B hml hv
  obtain ⟨rfl, hsz, hP, hK, hD0⟩ := hv
  have hx := B.exec
  have hb := B.bytes
  have hr := B.returns
  have hts : ∀ w ∈ wsL_law, w.before _ s = true := fun w h => atoms_spec (ws := Cond.code yX8_keeps cX8_keeps 3 none :: wsL_law) B.pre w (List.mem_cons_of_mem _ h)
  have hown : s.vm.findClass RX8 = some m.cls := findClass_of_methodNamed B.named
  have hlocks := B.notSynchronized
  subst hsz
  have hD := hD0.self (sz := s.heap.size)
  generalize hAe : va_A [((mm 0), .inr (7, [.int 0, .ref (mm 1), .ref (mm 2), .ref (mm 3), .ref (mm 4), .ref (mm 5), .int 0, .int 0, .int 0, .int 0, .int 0, .int 0, .int 0, .int 0, .int 0, .int (-1), .int 0, .ref (mm 6), .int 0, .ref (mm 7), .ref (mm 8), .ref (mm 9), .int fw, .ref (mm 10), .ref (mm 11), .int 0, .int 0, .ref (mm 12), .ref (mm 13), .int 0, .ref (mm 14), .ref (mm 15), .ref (mm 16)])), ((mm 1), .inl (k 0, 1227, .inl f)), ((mm 6), .inl (k 0, 2454, .inl kp))] s.heap.size = A at hD ⊢
  have hA : ∀ q : Nat, s.heap.size ≤ q → A q := fun q h => by rw [← hAe]; exact Or.inr h
  have hS : va_S A s.heap s.heap [] := va_S.rf
  have hP : va_P D vwCl [((mm 0), .inr (7, [.int 0, .ref (mm 1), .ref (mm 2), .ref (mm 3), .ref (mm 4), .ref (mm 5), .int 0, .int 0, .int 0, .int 0, .int 0, .int 0, .int 0, .int 0, .int 0, .int (-1), .int 0, .ref (mm 6), .int 0, .ref (mm 7), .ref (mm 8), .ref (mm 9), .int fw, .ref (mm 10), .ref (mm 11), .int 0, .int 0, .ref (mm 12), .ref (mm 13), .int 0, .ref (mm 14), .ref (mm 15), .ref (mm 16)])), ((mm 1), .inl (k 0, 1227, .inl f)), ((mm 6), .inl (k 0, 2454, .inl kp))] s.heap := hP
  have hl := lv_entry ([.ref (mm 0), .int 0]) (n := 3) (Nat.le_of_ble_eq_true rfl)
  rw [lg_entry_eq]
  generalize (lg_sl ([.ref (mm 0), .int 0]) ++ List.replicate (3 - (lg_sl ([.ref (mm 0), .int 0])).length) Slot.unset).toArray = ls at hl ⊢
  have hl : lv_has ls 3 [(0, .ref (mm 0)), (1, .int 0)] := hl
  refine lv_iconst (v := 0) hx hb dX8_keeps_0 (by decide) ?_
  refine lv_istore_n (lv' := [(2, .int 0), (0, .ref (mm 0)), (1, .int 0)]) hx hb dX8_keeps_1 rfl hl (by decide) rfl (fun ls hl => ?_)
  refine W_loop (σ := Int32 × (Nat → Int32)) (fun xx H locs ls => (0 ≤ xx.1.toInt ∧ xx.1.toInt ≤ 409) ∧ (KZ xx.2) ∧ va_P D vwCl [((mm 0), .inr (7, [.int 0, .ref (mm 1), .ref (mm 2), .ref (mm 3), .ref (mm 4), .ref (mm 5), .int 0, .int 0, .int 0, .int 0, .int 0, .int 0, .int 0, .int 0, .int 0, .int (-1), .int 0, .ref (mm 6), .int 0, .ref (mm 7), .ref (mm 8), .ref (mm 9), .int fw, .ref (mm 10), .ref (mm 11), .int 0, .int 0, .ref (mm 12), .ref (mm 13), .int 0, .ref (mm 14), .ref (mm 15), .ref (mm 16)])), ((mm 1), .inl (k 0, 1227, .inl f)), ((mm 6), .inl (k 0, 2454, .inl xx.2))] H ∧ va_D A [((mm 0), .inr (7, [.int 0, .ref (mm 1), .ref (mm 2), .ref (mm 3), .ref (mm 4), .ref (mm 5), .int 0, .int 0, .int 0, .int 0, .int 0, .int 0, .int 0, .int 0, .int 0, .int (-1), .int 0, .ref (mm 6), .int 0, .ref (mm 7), .ref (mm 8), .ref (mm 9), .int fw, .ref (mm 10), .ref (mm 11), .int 0, .int 0, .ref (mm 12), .ref (mm 13), .int 0, .ref (mm 14), .ref (mm 15), .ref (mm 16)])), ((mm 1), .inl (k 0, 1227, .inl f)), ((mm 6), .inl (k 0, 2454, .inl xx.2))] ∧ va_S A s.heap H locs ∧ lv_has ls 3 [(2, .int xx.1), (0, .ref (mm 0)), (1, .int 0)]) (fun xx => (409 - xx.1.toInt).toNat) ?_ (0, kp) _ _ ls ⟨(show 0 ≤ (0 : Int32).toInt ∧ (0 : Int32).toInt ≤ 409 from ⟨by decide, by decide⟩), hk, hP.sub [0, 1, 2] rfl, hD.sub [0, 1, 2] (by decide) rfl, hS, lv_sub hl [0, 1, 2] rfl⟩
  intro xx H locs ls hI ih
  obtain ⟨i_1, f_2⟩ := xx
  obtain ⟨h_3, h_4, hP, hD, hS, hl⟩ := hI
  have h_3 : 0 ≤ i_1.toInt ∧ i_1.toInt ≤ 409 := h_3
  have h_4 : KZ f_2 := h_4
  obtain ⟨h_3a, h_3b⟩ := h_3
  have hP : va_P D vwCl [((mm 0), .inr (7, [.int 0, .ref (mm 1), .ref (mm 2), .ref (mm 3), .ref (mm 4), .ref (mm 5), .int 0, .int 0, .int 0, .int 0, .int 0, .int 0, .int 0, .int 0, .int 0, .int (-1), .int 0, .ref (mm 6), .int 0, .ref (mm 7), .ref (mm 8), .ref (mm 9), .int fw, .ref (mm 10), .ref (mm 11), .int 0, .int 0, .ref (mm 12), .ref (mm 13), .int 0, .ref (mm 14), .ref (mm 15), .ref (mm 16)])), ((mm 1), .inl (k 0, 1227, .inl f)), ((mm 6), .inl (k 0, 2454, .inl f_2))] H := hP
  have hD : va_D A [((mm 0), .inr (7, [.int 0, .ref (mm 1), .ref (mm 2), .ref (mm 3), .ref (mm 4), .ref (mm 5), .int 0, .int 0, .int 0, .int 0, .int 0, .int 0, .int 0, .int 0, .int 0, .int (-1), .int 0, .ref (mm 6), .int 0, .ref (mm 7), .ref (mm 8), .ref (mm 9), .int fw, .ref (mm 10), .ref (mm 11), .int 0, .int 0, .ref (mm 12), .ref (mm 13), .int 0, .ref (mm 14), .ref (mm 15), .ref (mm 16)])), ((mm 1), .inl (k 0, 1227, .inl f)), ((mm 6), .inl (k 0, 2454, .inl f_2))] := hD
  have hl : lv_has ls 3 [(2, .int i_1), (0, .ref (mm 0)), (1, .int 0)] := hl
  refine lv_iload_n hx hb dX8_keeps_2 rfl (lv_at hl 0 rfl) ?_
  refine lv_sipush (v := 409) hx hb dX8_keeps_3 (by decide) ?_
  refine lv_icmp_ge (tgt := 33) hx hb dX8_keeps_6 (by decide) (fun c_5 => ?_) (fun c_5 => ?_)
  · have c_5 : 409 ≤ i_1.toInt := ti_le c_5
    have qc_5 : i_1 = 409 := ti_of (show i_1.toInt = 409 from by omega)
    have hP9 := hP.sub (ws' := [((mm 0), .inr (7, [.int 0, .ref (mm 1), .ref (mm 2), .ref (mm 3), .ref (mm 4), .ref (mm 5), .int 0, .int 0, .int 0, .int 0, .int 0, .int 0, .int 0, .int 0, .int 0, .int (-1), .int 0, .ref (mm 6), .int 0, .ref (mm 7), .ref (mm 8), .ref (mm 9), .int fw, .ref (mm 10), .ref (mm 11), .int 0, .int 0, .ref (mm 12), .ref (mm 13), .int 0, .ref (mm 14), .ref (mm 15), .ref (mm 16)])), ((mm 1), .inl (k 0, 1227, .inl f)), ((mm 6), .inl (k 0, 2454, .inl f_2))]) [0, 1, 2] rfl
    have hD9 := hD.sub (ws' := [((mm 0), .inr (7, [.int 0, .ref (mm 1), .ref (mm 2), .ref (mm 3), .ref (mm 4), .ref (mm 5), .int 0, .int 0, .int 0, .int 0, .int 0, .int 0, .int 0, .int 0, .int 0, .int (-1), .int 0, .ref (mm 6), .int 0, .ref (mm 7), .ref (mm 8), .ref (mm 9), .int fw, .ref (mm 10), .ref (mm 11), .int 0, .int 0, .ref (mm 12), .ref (mm 13), .int 0, .ref (mm 14), .ref (mm 15), .ref (mm 16)])), ((mm 1), .inl (k 0, 1227, .inl f)), ((mm 6), .inl (k 0, 2454, .inl f_2))]) [0, 1, 2] (by decide) rfl
    exact W.vret hx hb hr (fun t ht hW => ⟨⟨(f_2), rfl, h_4, by rw [ht]; exact hP9, hD9⟩, hS.F ht⟩) hS.2.2 dX8_keeps_33
  · have c_5 : i_1.toInt < 409 := ti_nle c_5
    refine lv_aload_n hx hb dX8_keeps_9 rfl (lv_at hl 1 rfl) ?_
    refine va_get (D := D) (ci := 7) (v := .ref (mm 6)) (C := RX8) (T := TX8) (N := 33) hx hb hts inlX8 hown hK hP 0 rfl rfl 17 (by decide) (hts _ mw_97) (fun _ h9 => h9) rfl dX8_keeps_10 ?_
    refine lv_sipush (v := 409) hx hb dX8_keeps_13 (by decide) ?_
    refine lv_iload_n hx hb dX8_keeps_16 rfl (lv_at hl 2 rfl) ?_
    refine lv_imul hx hb dX8_keeps_17 ?_
    refine lv_ni (v := 0) (by decide) ?_
    refine lv_iload_n hx hb dX8_keeps_18 rfl (lv_at hl 0 rfl) ?_
    refine lv_iadd hx hb dX8_keeps_19 ?_
    refine lv_topi (fun z_6 ez_6 => ?_)
    have tz_6 : z_6.toInt = 0 + i_1.toInt := by rw [ez_6]; exact ti_addcl (by decide) (by omega) (by omega)
    refine lv_aload_n hx hb dX8_keeps_20 rfl (lv_at hl 1 rfl) ?_
    refine va_get (D := D) (ci := 7) (v := .ref (mm 1)) (C := RX8) (T := TX8) (N := 33) hx hb hts inlX8 hown hK hP 0 rfl rfl 1 (by decide) (hts _ mw_91) (fun _ h9 => h9) rfl dX8_keeps_21 ?_
    refine lv_iload_n hx hb dX8_keeps_24 rfl (lv_at hl 0 rfl) ?_
    refine va_iald hx hb hK hP 1 0 rfl rfl (vp_in_o (by omega) (by omega)) dX8_keeps_25 ?_
    refine lv_topi (fun z_7 ez_7 => ?_)
    refine va_iast hx hb hK hP hD hS 2 0 rfl rfl (vp_in_o (by omega) (by omega)) dX8_keeps_26 (fun H locs hP hD hS => ?_)
    have hP : va_P D vwCl [((mm 0), .inr (7, [.int 0, .ref (mm 1), .ref (mm 2), .ref (mm 3), .ref (mm 4), .ref (mm 5), .int 0, .int 0, .int 0, .int 0, .int 0, .int 0, .int 0, .int 0, .int 0, .int (-1), .int 0, .ref (mm 6), .int 0, .ref (mm 7), .ref (mm 8), .ref (mm 9), .int fw, .ref (mm 10), .ref (mm 11), .int 0, .int 0, .ref (mm 12), .ref (mm 13), .int 0, .ref (mm 14), .ref (mm 15), .ref (mm 16)])), ((mm 1), .inl (k 0, 1227, .inl f)), ((mm 6), .inl (k 0, 2454, .inl (upd f_2 z_6.toNatClampNeg z_7)))] H := hP
    have hD : va_D A [((mm 0), .inr (7, [.int 0, .ref (mm 1), .ref (mm 2), .ref (mm 3), .ref (mm 4), .ref (mm 5), .int 0, .int 0, .int 0, .int 0, .int 0, .int 0, .int 0, .int 0, .int 0, .int (-1), .int 0, .ref (mm 6), .int 0, .ref (mm 7), .ref (mm 8), .ref (mm 9), .int fw, .ref (mm 10), .ref (mm 11), .int 0, .int 0, .ref (mm 12), .ref (mm 13), .int 0, .ref (mm 14), .ref (mm 15), .ref (mm 16)])), ((mm 1), .inl (k 0, 1227, .inl f)), ((mm 6), .inl (k 0, 2454, .inl (upd f_2 z_6.toNatClampNeg z_7)))] := hD
    generalize ef_8 : (upd f_2 z_6.toNatClampNeg z_7) = f_8 at hP hD
    have hf_8 : KZ f_8 := by rw [← ef_8]; exact KZ_upd h_4 (fun lv h => by rw [ez_7, ti_cl, show i_1.toInt.toNat = 0 from by omega]; exact hf) (by omega)
    obtain ⟨z_9, ez_9⟩ : ∃ y : Int32, y = i_1 + 1 := ⟨_, rfl⟩
    have tz_9 : z_9.toInt = i_1.toInt + 1 := by rw [ez_9]; exact ti_addc (by decide) (by omega) (by omega)
    refine lv_iinc (v := z_9) (lv' := [(2, .int z_9), (0, .ref (mm 0)), (1, .int 0)]) hx hb dX8_keeps_27 hl (k := 0) rfl (ez_9.symm) (by decide) rfl (fun ls hl => ?_)
    refine lv_goto (tgt := 2) hx hb dX8_keeps_30 (by decide) ?_
    exact ih (z_9, f_8) _ _ ls (by show (409 - z_9.toInt).toNat < (409 - i_1.toInt).toNat; omega) ⟨(show 0 ≤ z_9.toInt ∧ z_9.toInt ≤ 409 from ⟨by omega, by omega⟩), hf_8, hP.sub [0, 1, 2] rfl, hD.sub [0, 1, 2] (by decide) rfl, hS, lv_sub hl [0, 1, 2] rfl⟩
set_option maxHeartbeats 4000000 in
set_option maxRecDepth 100000 in
theorem c_M_isAgain0 (l : Launch) (D : va_G) (k : Nat → ClassId) (mm : Nat → Nat) (fw : Int32) (f : Nat → Int32) (kp : Nat → Int32) (sz : Nat) (hf : f 0 = 0) (hk : KZ kp) : Met l yX8_isAgain (Cond.code yX8_isAgain cX8_isAgain 3 none :: wsL_law) ({ frames := 0, cells := 0, slots := 0, locals := 0 } : Room) (va_Pc [.ref (mm 0), .int 0] (pu D k sz [((mm 0), .inr (7, [.int 0, .ref (mm 1), .ref (mm 2), .ref (mm 3), .ref (mm 4), .ref (mm 5), .int 0, .int 0, .int 0, .int 0, .int 0, .int 0, .int 0, .int 0, .int 0, .int (-1), .int 0, .ref (mm 6), .int 0, .ref (mm 7), .ref (mm 8), .ref (mm 9), .int fw, .ref (mm 10), .ref (mm 11), .int 0, .int 0, .ref (mm 12), .ref (mm 13), .int 0, .ref (mm 14), .ref (mm 15), .ref (mm 16)])), ((mm 1), .inl (k 0, 1227, .inl f)), ((mm 6), .inl (k 0, 2454, .inl kp))])) (va_Qv (fun uu : Nat → Int32 => uu 0 = 0) (qu D (va_A [((mm 0), .inr (7, [.int 0, .ref (mm 1), .ref (mm 2), .ref (mm 3), .ref (mm 4), .ref (mm 5), .int 0, .int 0, .int 0, .int 0, .int 0, .int 0, .int 0, .int 0, .int 0, .int (-1), .int 0, .ref (mm 6), .int 0, .ref (mm 7), .ref (mm 8), .ref (mm 9), .int fw, .ref (mm 10), .ref (mm 11), .int 0, .int 0, .ref (mm 12), .ref (mm 13), .int 0, .ref (mm 14), .ref (mm 15), .ref (mm 16)])), ((mm 1), .inl (k 0, 1227, .inl f)), ((mm 6), .inl (k 0, 2454, .inl kp))] sz) (fun uu : Nat → Int32 => [((mm 0), .inr (7, [.int 0, .ref (mm 1), .ref (mm 2), .ref (mm 3), .ref (mm 4), .ref (mm 5), .int 0, .int 0, .int 0, .int 0, .int 0, .int 0, .int 0, .int 0, .int 0, .int (-1), .int 0, .ref (mm 6), .int 0, .ref (mm 7), .ref (mm 8), .ref (mm 9), .int fw, .ref (mm 10), .ref (mm 11), .int 0, .int 0, .ref (mm 12), .ref (mm 13), .int 0, .ref (mm 14), .ref (mm 15), .ref (mm 16)])), ((mm 1), .inl (k 0, 1227, .inl uu)), ((mm 6), .inl (k 0, 2454, .inl kp))])) (va_A [((mm 0), .inr (7, [.int 0, .ref (mm 1), .ref (mm 2), .ref (mm 3), .ref (mm 4), .ref (mm 5), .int 0, .int 0, .int 0, .int 0, .int 0, .int 0, .int 0, .int 0, .int 0, .int (-1), .int 0, .ref (mm 6), .int 0, .ref (mm 7), .ref (mm 8), .ref (mm 9), .int fw, .ref (mm 10), .ref (mm 11), .int 0, .int 0, .ref (mm 12), .ref (mm 13), .int 0, .ref (mm 14), .ref (mm 15), .ref (mm 16)])), ((mm 1), .inl (k 0, 1227, .inl f)), ((mm 6), .inl (k 0, 2454, .inl kp))] sz)) 0 0 (va_A [((mm 0), .inr (7, [.int 0, .ref (mm 1), .ref (mm 2), .ref (mm 3), .ref (mm 4), .ref (mm 5), .int 0, .int 0, .int 0, .int 0, .int 0, .int 0, .int 0, .int 0, .int 0, .int (-1), .int 0, .ref (mm 6), .int 0, .ref (mm 7), .ref (mm 8), .ref (mm 9), .int fw, .ref (mm 10), .ref (mm 11), .int 0, .int 0, .ref (mm 12), .ref (mm 13), .int 0, .ref (mm 14), .ref (mm 15), .ref (mm 16)])), ((mm 1), .inl (k 0, 1227, .inl f)), ((mm 6), .inl (k 0, 2454, .inl kp))] sz) := by
  refine Met.ofW (cc := cX8_isAgain) (maxL := 3) (ret := none) (by decide) rfl ?_
  intro p e s m args below meth c s₁ B hml hv
  obtain ⟨rfl, hsz, hP, hK, hD0⟩ := hv
  have hx := B.exec
  have hb := B.bytes
  have hr := B.returns
  have hts : ∀ w ∈ wsL_law, w.before _ s = true := fun w h => atoms_spec (ws := Cond.code yX8_isAgain cX8_isAgain 3 none :: wsL_law) B.pre w (List.mem_cons_of_mem _ h)
  have hown : s.vm.findClass RX8 = some m.cls := findClass_of_methodNamed B.named
  have hlocks := B.notSynchronized
  subst hsz
  have hD := hD0.self (sz := s.heap.size)
  generalize hAe : va_A [((mm 0), .inr (7, [.int 0, .ref (mm 1), .ref (mm 2), .ref (mm 3), .ref (mm 4), .ref (mm 5), .int 0, .int 0, .int 0, .int 0, .int 0, .int 0, .int 0, .int 0, .int 0, .int (-1), .int 0, .ref (mm 6), .int 0, .ref (mm 7), .ref (mm 8), .ref (mm 9), .int fw, .ref (mm 10), .ref (mm 11), .int 0, .int 0, .ref (mm 12), .ref (mm 13), .int 0, .ref (mm 14), .ref (mm 15), .ref (mm 16)])), ((mm 1), .inl (k 0, 1227, .inl f)), ((mm 6), .inl (k 0, 2454, .inl kp))] s.heap.size = A at hD ⊢
  have hA : ∀ q : Nat, s.heap.size ≤ q → A q := fun q h => by rw [← hAe]; exact Or.inr h
  have hS : va_S A s.heap s.heap [] := va_S.rf
  have hP : va_P D vwCl [((mm 0), .inr (7, [.int 0, .ref (mm 1), .ref (mm 2), .ref (mm 3), .ref (mm 4), .ref (mm 5), .int 0, .int 0, .int 0, .int 0, .int 0, .int 0, .int 0, .int 0, .int 0, .int (-1), .int 0, .ref (mm 6), .int 0, .ref (mm 7), .ref (mm 8), .ref (mm 9), .int fw, .ref (mm 10), .ref (mm 11), .int 0, .int 0, .ref (mm 12), .ref (mm 13), .int 0, .ref (mm 14), .ref (mm 15), .ref (mm 16)])), ((mm 1), .inl (k 0, 1227, .inl f)), ((mm 6), .inl (k 0, 2454, .inl kp))] s.heap := hP
  have hl := lv_entry ([.ref (mm 0), .int 0]) (n := 3) (Nat.le_of_ble_eq_true rfl)
  rw [lg_entry_eq]
  generalize (lg_sl ([.ref (mm 0), .int 0]) ++ List.replicate (3 - (lg_sl ([.ref (mm 0), .int 0])).length) Slot.unset).toArray = ls at hl ⊢
  have hl : lv_has ls 3 [(0, .ref (mm 0)), (1, .int 0)] := hl
  refine lv_iconst (v := 0) hx hb dX8_isAgain_0 (by decide) ?_
  refine lv_istore_n (lv' := [(2, .int 0), (0, .ref (mm 0)), (1, .int 0)]) hx hb dX8_isAgain_1 rfl hl (by decide) rfl (fun ls hl => ?_)
  refine W_loop (σ := Int32 × (Nat → Int32)) (fun xx H locs ls => (0 ≤ xx.1.toInt ∧ xx.1.toInt ≤ 409) ∧ (xx.2 0 = 0) ∧ va_P D vwCl [((mm 0), .inr (7, [.int 0, .ref (mm 1), .ref (mm 2), .ref (mm 3), .ref (mm 4), .ref (mm 5), .int 0, .int 0, .int 0, .int 0, .int 0, .int 0, .int 0, .int 0, .int 0, .int (-1), .int 0, .ref (mm 6), .int 0, .ref (mm 7), .ref (mm 8), .ref (mm 9), .int fw, .ref (mm 10), .ref (mm 11), .int 0, .int 0, .ref (mm 12), .ref (mm 13), .int 0, .ref (mm 14), .ref (mm 15), .ref (mm 16)])), ((mm 1), .inl (k 0, 1227, .inl xx.2)), ((mm 6), .inl (k 0, 2454, .inl kp))] H ∧ va_D A [((mm 0), .inr (7, [.int 0, .ref (mm 1), .ref (mm 2), .ref (mm 3), .ref (mm 4), .ref (mm 5), .int 0, .int 0, .int 0, .int 0, .int 0, .int 0, .int 0, .int 0, .int 0, .int (-1), .int 0, .ref (mm 6), .int 0, .ref (mm 7), .ref (mm 8), .ref (mm 9), .int fw, .ref (mm 10), .ref (mm 11), .int 0, .int 0, .ref (mm 12), .ref (mm 13), .int 0, .ref (mm 14), .ref (mm 15), .ref (mm 16)])), ((mm 1), .inl (k 0, 1227, .inl xx.2)), ((mm 6), .inl (k 0, 2454, .inl kp))] ∧ va_S A s.heap H locs ∧ lv_has ls 3 [(2, .int xx.1), (0, .ref (mm 0)), (1, .int 0)]) (fun xx => (409 - xx.1.toInt).toNat) ?_ (0, f) _ _ ls ⟨(show 0 ≤ (0 : Int32).toInt ∧ (0 : Int32).toInt ≤ 409 from ⟨by decide, by decide⟩), hf, hP.sub [0, 1, 2] rfl, hD.sub [0, 1, 2] (by decide) rfl, hS, lv_sub hl [0, 1, 2] rfl⟩
  intro xx H locs ls hI ih
  obtain ⟨i_1, f_2⟩ := xx
  obtain ⟨h_3, h_4, hP, hD, hS, hl⟩ := hI
  have h_3 : 0 ≤ i_1.toInt ∧ i_1.toInt ≤ 409 := h_3
  have h_4 : f_2 0 = 0 := h_4
  obtain ⟨h_3a, h_3b⟩ := h_3
  have hP : va_P D vwCl [((mm 0), .inr (7, [.int 0, .ref (mm 1), .ref (mm 2), .ref (mm 3), .ref (mm 4), .ref (mm 5), .int 0, .int 0, .int 0, .int 0, .int 0, .int 0, .int 0, .int 0, .int 0, .int (-1), .int 0, .ref (mm 6), .int 0, .ref (mm 7), .ref (mm 8), .ref (mm 9), .int fw, .ref (mm 10), .ref (mm 11), .int 0, .int 0, .ref (mm 12), .ref (mm 13), .int 0, .ref (mm 14), .ref (mm 15), .ref (mm 16)])), ((mm 1), .inl (k 0, 1227, .inl f_2)), ((mm 6), .inl (k 0, 2454, .inl kp))] H := hP
  have hD : va_D A [((mm 0), .inr (7, [.int 0, .ref (mm 1), .ref (mm 2), .ref (mm 3), .ref (mm 4), .ref (mm 5), .int 0, .int 0, .int 0, .int 0, .int 0, .int 0, .int 0, .int 0, .int 0, .int (-1), .int 0, .ref (mm 6), .int 0, .ref (mm 7), .ref (mm 8), .ref (mm 9), .int fw, .ref (mm 10), .ref (mm 11), .int 0, .int 0, .ref (mm 12), .ref (mm 13), .int 0, .ref (mm 14), .ref (mm 15), .ref (mm 16)])), ((mm 1), .inl (k 0, 1227, .inl f_2)), ((mm 6), .inl (k 0, 2454, .inl kp))] := hD
  have hl : lv_has ls 3 [(2, .int i_1), (0, .ref (mm 0)), (1, .int 0)] := hl
  refine lv_iload_n hx hb dX8_isAgain_2 rfl (lv_at hl 0 rfl) ?_
  refine lv_sipush (v := 409) hx hb dX8_isAgain_3 (by decide) ?_
  refine lv_icmp_ge (tgt := 33) hx hb dX8_isAgain_6 (by decide) (fun c_5 => ?_) (fun c_5 => ?_)
  · have c_5 : 409 ≤ i_1.toInt := ti_le c_5
    have qc_5 : i_1 = 409 := ti_of (show i_1.toInt = 409 from by omega)
    have hP9 := hP.sub (ws' := [((mm 0), .inr (7, [.int 0, .ref (mm 1), .ref (mm 2), .ref (mm 3), .ref (mm 4), .ref (mm 5), .int 0, .int 0, .int 0, .int 0, .int 0, .int 0, .int 0, .int 0, .int 0, .int (-1), .int 0, .ref (mm 6), .int 0, .ref (mm 7), .ref (mm 8), .ref (mm 9), .int fw, .ref (mm 10), .ref (mm 11), .int 0, .int 0, .ref (mm 12), .ref (mm 13), .int 0, .ref (mm 14), .ref (mm 15), .ref (mm 16)])), ((mm 1), .inl (k 0, 1227, .inl f_2)), ((mm 6), .inl (k 0, 2454, .inl kp))]) [0, 1, 2] rfl
    have hD9 := hD.sub (ws' := [((mm 0), .inr (7, [.int 0, .ref (mm 1), .ref (mm 2), .ref (mm 3), .ref (mm 4), .ref (mm 5), .int 0, .int 0, .int 0, .int 0, .int 0, .int 0, .int 0, .int 0, .int 0, .int (-1), .int 0, .ref (mm 6), .int 0, .ref (mm 7), .ref (mm 8), .ref (mm 9), .int fw, .ref (mm 10), .ref (mm 11), .int 0, .int 0, .ref (mm 12), .ref (mm 13), .int 0, .ref (mm 14), .ref (mm 15), .ref (mm 16)])), ((mm 1), .inl (k 0, 1227, .inl f_2)), ((mm 6), .inl (k 0, 2454, .inl kp))]) [0, 1, 2] (by decide) rfl
    exact W.vret hx hb hr (fun t ht hW => ⟨⟨(f_2), rfl, h_4, by rw [ht]; exact hP9, hD9⟩, hS.F ht⟩) hS.2.2 dX8_isAgain_33
  · have c_5 : i_1.toInt < 409 := ti_nle c_5
    refine lv_aload_n hx hb dX8_isAgain_9 rfl (lv_at hl 1 rfl) ?_
    refine va_get (D := D) (ci := 7) (v := .ref (mm 1)) (C := RX8) (T := TX8) (N := 33) hx hb hts inlX8 hown hK hP 0 rfl rfl 1 (by decide) (hts _ mw_91) (fun _ h9 => h9) rfl dX8_isAgain_10 ?_
    refine lv_iload_n hx hb dX8_isAgain_13 rfl (lv_at hl 0 rfl) ?_
    refine lv_aload_n hx hb dX8_isAgain_14 rfl (lv_at hl 1 rfl) ?_
    refine va_get (D := D) (ci := 7) (v := .ref (mm 6)) (C := RX8) (T := TX8) (N := 33) hx hb hts inlX8 hown hK hP 0 rfl rfl 17 (by decide) (hts _ mw_97) (fun _ h9 => h9) rfl dX8_isAgain_15 ?_
    refine lv_sipush (v := 409) hx hb dX8_isAgain_18 (by decide) ?_
    refine lv_iload_n hx hb dX8_isAgain_21 rfl (lv_at hl 2 rfl) ?_
    refine lv_imul hx hb dX8_isAgain_22 ?_
    refine lv_ni (v := 0) (by decide) ?_
    refine lv_iload_n hx hb dX8_isAgain_23 rfl (lv_at hl 0 rfl) ?_
    refine lv_iadd hx hb dX8_isAgain_24 ?_
    refine lv_topi (fun z_6 ez_6 => ?_)
    have tz_6 : z_6.toInt = 0 + i_1.toInt := by rw [ez_6]; exact ti_addcl (by decide) (by omega) (by omega)
    refine va_iald hx hb hK hP 2 0 rfl rfl (vp_in_o (by omega) (by omega)) dX8_isAgain_25 ?_
    refine lv_topi (fun z_7 ez_7 => ?_)
    refine va_iast hx hb hK hP hD hS 1 0 rfl rfl (vp_in_o (by omega) (by omega)) dX8_isAgain_26 (fun H locs hP hD hS => ?_)
    have hP : va_P D vwCl [((mm 0), .inr (7, [.int 0, .ref (mm 1), .ref (mm 2), .ref (mm 3), .ref (mm 4), .ref (mm 5), .int 0, .int 0, .int 0, .int 0, .int 0, .int 0, .int 0, .int 0, .int 0, .int (-1), .int 0, .ref (mm 6), .int 0, .ref (mm 7), .ref (mm 8), .ref (mm 9), .int fw, .ref (mm 10), .ref (mm 11), .int 0, .int 0, .ref (mm 12), .ref (mm 13), .int 0, .ref (mm 14), .ref (mm 15), .ref (mm 16)])), ((mm 1), .inl (k 0, 1227, .inl (upd f_2 i_1.toNatClampNeg z_7))), ((mm 6), .inl (k 0, 2454, .inl kp))] H := hP
    have hD : va_D A [((mm 0), .inr (7, [.int 0, .ref (mm 1), .ref (mm 2), .ref (mm 3), .ref (mm 4), .ref (mm 5), .int 0, .int 0, .int 0, .int 0, .int 0, .int 0, .int 0, .int 0, .int 0, .int (-1), .int 0, .ref (mm 6), .int 0, .ref (mm 7), .ref (mm 8), .ref (mm 9), .int fw, .ref (mm 10), .ref (mm 11), .int 0, .int 0, .ref (mm 12), .ref (mm 13), .int 0, .ref (mm 14), .ref (mm 15), .ref (mm 16)])), ((mm 1), .inl (k 0, 1227, .inl (upd f_2 i_1.toNatClampNeg z_7))), ((mm 6), .inl (k 0, 2454, .inl kp))] := hD
    generalize ef_8 : (upd f_2 i_1.toNatClampNeg z_7) = f_8 at hP hD
    have hf_8_0 : f_8 0 = 0 := by rw [← ef_8]; exact upd_at h_4 (fun h => by rw [ez_7, ti_cl]; exact KZ_at hk 0 (by omega)) (by omega)
    obtain ⟨z_9, ez_9⟩ : ∃ y : Int32, y = i_1 + 1 := ⟨_, rfl⟩
    have tz_9 : z_9.toInt = i_1.toInt + 1 := by rw [ez_9]; exact ti_addc (by decide) (by omega) (by omega)
    refine lv_iinc (v := z_9) (lv' := [(2, .int z_9), (0, .ref (mm 0)), (1, .int 0)]) hx hb dX8_isAgain_27 hl (k := 0) rfl (ez_9.symm) (by decide) rfl (fun ls hl => ?_)
    refine lv_goto (tgt := 2) hx hb dX8_isAgain_30 (by decide) ?_
    exact ih (z_9, f_8) _ _ ls (by show (409 - z_9.toInt).toNat < (409 - i_1.toInt).toNat; omega) ⟨(show 0 ≤ z_9.toInt ∧ z_9.toInt ≤ 409 from ⟨by omega, by omega⟩), hf_8_0, hP.sub [0, 1, 2] rfl, hD.sub [0, 1, 2] (by decide) rfl, hS, lv_sub hl [0, 1, 2] rfl⟩
set_option maxHeartbeats 4000000 in
set_option maxRecDepth 100000 in
theorem c_M_keeps1 (l : Launch) (D : va_G) (k : Nat → ClassId) (mm : Nat → Nat) (fw : Int32) (f : Nat → Int32) (kp : Nat → Int32) (sz : Nat) (hf : f 0 = 0) (hk : KZ kp) : Met l yX8_keeps (Cond.code yX8_keeps cX8_keeps 3 none :: wsL_law) ({ frames := 0, cells := 0, slots := 0, locals := 0 } : Room) (va_Pc [.ref (mm 0), .int 1] (pu D k sz [((mm 0), .inr (7, [.int 0, .ref (mm 1), .ref (mm 2), .ref (mm 3), .ref (mm 4), .ref (mm 5), .int 0, .int 0, .int 0, .int 0, .int 0, .int 0, .int 0, .int 0, .int 0, .int (-1), .int 0, .ref (mm 6), .int 0, .ref (mm 7), .ref (mm 8), .ref (mm 9), .int fw, .ref (mm 10), .ref (mm 11), .int 0, .int 0, .ref (mm 12), .ref (mm 13), .int 0, .ref (mm 14), .ref (mm 15), .ref (mm 16)])), ((mm 1), .inl (k 0, 1227, .inl f)), ((mm 6), .inl (k 0, 2454, .inl kp))])) (va_Qv (fun uu : Nat → Int32 => KZ uu) (qu D (va_A [((mm 0), .inr (7, [.int 0, .ref (mm 1), .ref (mm 2), .ref (mm 3), .ref (mm 4), .ref (mm 5), .int 0, .int 0, .int 0, .int 0, .int 0, .int 0, .int 0, .int 0, .int 0, .int (-1), .int 0, .ref (mm 6), .int 0, .ref (mm 7), .ref (mm 8), .ref (mm 9), .int fw, .ref (mm 10), .ref (mm 11), .int 0, .int 0, .ref (mm 12), .ref (mm 13), .int 0, .ref (mm 14), .ref (mm 15), .ref (mm 16)])), ((mm 1), .inl (k 0, 1227, .inl f)), ((mm 6), .inl (k 0, 2454, .inl kp))] sz) (fun uu : Nat → Int32 => [((mm 0), .inr (7, [.int 0, .ref (mm 1), .ref (mm 2), .ref (mm 3), .ref (mm 4), .ref (mm 5), .int 0, .int 0, .int 0, .int 0, .int 0, .int 0, .int 0, .int 0, .int 0, .int (-1), .int 0, .ref (mm 6), .int 0, .ref (mm 7), .ref (mm 8), .ref (mm 9), .int fw, .ref (mm 10), .ref (mm 11), .int 0, .int 0, .ref (mm 12), .ref (mm 13), .int 0, .ref (mm 14), .ref (mm 15), .ref (mm 16)])), ((mm 1), .inl (k 0, 1227, .inl f)), ((mm 6), .inl (k 0, 2454, .inl uu))])) (va_A [((mm 0), .inr (7, [.int 0, .ref (mm 1), .ref (mm 2), .ref (mm 3), .ref (mm 4), .ref (mm 5), .int 0, .int 0, .int 0, .int 0, .int 0, .int 0, .int 0, .int 0, .int 0, .int (-1), .int 0, .ref (mm 6), .int 0, .ref (mm 7), .ref (mm 8), .ref (mm 9), .int fw, .ref (mm 10), .ref (mm 11), .int 0, .int 0, .ref (mm 12), .ref (mm 13), .int 0, .ref (mm 14), .ref (mm 15), .ref (mm 16)])), ((mm 1), .inl (k 0, 1227, .inl f)), ((mm 6), .inl (k 0, 2454, .inl kp))] sz)) 0 0 (va_A [((mm 0), .inr (7, [.int 0, .ref (mm 1), .ref (mm 2), .ref (mm 3), .ref (mm 4), .ref (mm 5), .int 0, .int 0, .int 0, .int 0, .int 0, .int 0, .int 0, .int 0, .int 0, .int (-1), .int 0, .ref (mm 6), .int 0, .ref (mm 7), .ref (mm 8), .ref (mm 9), .int fw, .ref (mm 10), .ref (mm 11), .int 0, .int 0, .ref (mm 12), .ref (mm 13), .int 0, .ref (mm 14), .ref (mm 15), .ref (mm 16)])), ((mm 1), .inl (k 0, 1227, .inl f)), ((mm 6), .inl (k 0, 2454, .inl kp))] sz) := by
  refine Met.ofW (cc := cX8_keeps) (maxL := 3) (ret := none) (by decide) rfl ?_
  intro p e s m args below meth c s₁ B hml hv
  obtain ⟨rfl, hsz, hP, hK, hD0⟩ := hv
  have hx := B.exec
  have hb := B.bytes
  have hr := B.returns
  have hts : ∀ w ∈ wsL_law, w.before _ s = true := fun w h => atoms_spec (ws := Cond.code yX8_keeps cX8_keeps 3 none :: wsL_law) B.pre w (List.mem_cons_of_mem _ h)
  have hown : s.vm.findClass RX8 = some m.cls := findClass_of_methodNamed B.named
  have hlocks := B.notSynchronized
  subst hsz
  have hD := hD0.self (sz := s.heap.size)
  generalize hAe : va_A [((mm 0), .inr (7, [.int 0, .ref (mm 1), .ref (mm 2), .ref (mm 3), .ref (mm 4), .ref (mm 5), .int 0, .int 0, .int 0, .int 0, .int 0, .int 0, .int 0, .int 0, .int 0, .int (-1), .int 0, .ref (mm 6), .int 0, .ref (mm 7), .ref (mm 8), .ref (mm 9), .int fw, .ref (mm 10), .ref (mm 11), .int 0, .int 0, .ref (mm 12), .ref (mm 13), .int 0, .ref (mm 14), .ref (mm 15), .ref (mm 16)])), ((mm 1), .inl (k 0, 1227, .inl f)), ((mm 6), .inl (k 0, 2454, .inl kp))] s.heap.size = A at hD ⊢
  have hA : ∀ q : Nat, s.heap.size ≤ q → A q := fun q h => by rw [← hAe]; exact Or.inr h
  have hS : va_S A s.heap s.heap [] := va_S.rf
  have hP : va_P D vwCl [((mm 0), .inr (7, [.int 0, .ref (mm 1), .ref (mm 2), .ref (mm 3), .ref (mm 4), .ref (mm 5), .int 0, .int 0, .int 0, .int 0, .int 0, .int 0, .int 0, .int 0, .int 0, .int (-1), .int 0, .ref (mm 6), .int 0, .ref (mm 7), .ref (mm 8), .ref (mm 9), .int fw, .ref (mm 10), .ref (mm 11), .int 0, .int 0, .ref (mm 12), .ref (mm 13), .int 0, .ref (mm 14), .ref (mm 15), .ref (mm 16)])), ((mm 1), .inl (k 0, 1227, .inl f)), ((mm 6), .inl (k 0, 2454, .inl kp))] s.heap := hP
  have hl := lv_entry ([.ref (mm 0), .int 1]) (n := 3) (Nat.le_of_ble_eq_true rfl)
  rw [lg_entry_eq]
  generalize (lg_sl ([.ref (mm 0), .int 1]) ++ List.replicate (3 - (lg_sl ([.ref (mm 0), .int 1])).length) Slot.unset).toArray = ls at hl ⊢
  have hl : lv_has ls 3 [(0, .ref (mm 0)), (1, .int 1)] := hl
  refine lv_iconst (v := 0) hx hb dX8_keeps_0 (by decide) ?_
  refine lv_istore_n (lv' := [(2, .int 0), (0, .ref (mm 0)), (1, .int 1)]) hx hb dX8_keeps_1 rfl hl (by decide) rfl (fun ls hl => ?_)
  refine W_loop (σ := Int32 × (Nat → Int32)) (fun xx H locs ls => (0 ≤ xx.1.toInt ∧ xx.1.toInt ≤ 409) ∧ (KZ xx.2) ∧ va_P D vwCl [((mm 0), .inr (7, [.int 0, .ref (mm 1), .ref (mm 2), .ref (mm 3), .ref (mm 4), .ref (mm 5), .int 0, .int 0, .int 0, .int 0, .int 0, .int 0, .int 0, .int 0, .int 0, .int (-1), .int 0, .ref (mm 6), .int 0, .ref (mm 7), .ref (mm 8), .ref (mm 9), .int fw, .ref (mm 10), .ref (mm 11), .int 0, .int 0, .ref (mm 12), .ref (mm 13), .int 0, .ref (mm 14), .ref (mm 15), .ref (mm 16)])), ((mm 1), .inl (k 0, 1227, .inl f)), ((mm 6), .inl (k 0, 2454, .inl xx.2))] H ∧ va_D A [((mm 0), .inr (7, [.int 0, .ref (mm 1), .ref (mm 2), .ref (mm 3), .ref (mm 4), .ref (mm 5), .int 0, .int 0, .int 0, .int 0, .int 0, .int 0, .int 0, .int 0, .int 0, .int (-1), .int 0, .ref (mm 6), .int 0, .ref (mm 7), .ref (mm 8), .ref (mm 9), .int fw, .ref (mm 10), .ref (mm 11), .int 0, .int 0, .ref (mm 12), .ref (mm 13), .int 0, .ref (mm 14), .ref (mm 15), .ref (mm 16)])), ((mm 1), .inl (k 0, 1227, .inl f)), ((mm 6), .inl (k 0, 2454, .inl xx.2))] ∧ va_S A s.heap H locs ∧ lv_has ls 3 [(2, .int xx.1), (0, .ref (mm 0)), (1, .int 1)]) (fun xx => (409 - xx.1.toInt).toNat) ?_ (0, kp) _ _ ls ⟨(show 0 ≤ (0 : Int32).toInt ∧ (0 : Int32).toInt ≤ 409 from ⟨by decide, by decide⟩), hk, hP.sub [0, 1, 2] rfl, hD.sub [0, 1, 2] (by decide) rfl, hS, lv_sub hl [0, 1, 2] rfl⟩
  intro xx H locs ls hI ih
  obtain ⟨i_1, f_2⟩ := xx
  obtain ⟨h_3, h_4, hP, hD, hS, hl⟩ := hI
  have h_3 : 0 ≤ i_1.toInt ∧ i_1.toInt ≤ 409 := h_3
  have h_4 : KZ f_2 := h_4
  obtain ⟨h_3a, h_3b⟩ := h_3
  have hP : va_P D vwCl [((mm 0), .inr (7, [.int 0, .ref (mm 1), .ref (mm 2), .ref (mm 3), .ref (mm 4), .ref (mm 5), .int 0, .int 0, .int 0, .int 0, .int 0, .int 0, .int 0, .int 0, .int 0, .int (-1), .int 0, .ref (mm 6), .int 0, .ref (mm 7), .ref (mm 8), .ref (mm 9), .int fw, .ref (mm 10), .ref (mm 11), .int 0, .int 0, .ref (mm 12), .ref (mm 13), .int 0, .ref (mm 14), .ref (mm 15), .ref (mm 16)])), ((mm 1), .inl (k 0, 1227, .inl f)), ((mm 6), .inl (k 0, 2454, .inl f_2))] H := hP
  have hD : va_D A [((mm 0), .inr (7, [.int 0, .ref (mm 1), .ref (mm 2), .ref (mm 3), .ref (mm 4), .ref (mm 5), .int 0, .int 0, .int 0, .int 0, .int 0, .int 0, .int 0, .int 0, .int 0, .int (-1), .int 0, .ref (mm 6), .int 0, .ref (mm 7), .ref (mm 8), .ref (mm 9), .int fw, .ref (mm 10), .ref (mm 11), .int 0, .int 0, .ref (mm 12), .ref (mm 13), .int 0, .ref (mm 14), .ref (mm 15), .ref (mm 16)])), ((mm 1), .inl (k 0, 1227, .inl f)), ((mm 6), .inl (k 0, 2454, .inl f_2))] := hD
  have hl : lv_has ls 3 [(2, .int i_1), (0, .ref (mm 0)), (1, .int 1)] := hl
  refine lv_iload_n hx hb dX8_keeps_2 rfl (lv_at hl 0 rfl) ?_
  refine lv_sipush (v := 409) hx hb dX8_keeps_3 (by decide) ?_
  refine lv_icmp_ge (tgt := 33) hx hb dX8_keeps_6 (by decide) (fun c_5 => ?_) (fun c_5 => ?_)
  · have c_5 : 409 ≤ i_1.toInt := ti_le c_5
    have qc_5 : i_1 = 409 := ti_of (show i_1.toInt = 409 from by omega)
    have hP9 := hP.sub (ws' := [((mm 0), .inr (7, [.int 0, .ref (mm 1), .ref (mm 2), .ref (mm 3), .ref (mm 4), .ref (mm 5), .int 0, .int 0, .int 0, .int 0, .int 0, .int 0, .int 0, .int 0, .int 0, .int (-1), .int 0, .ref (mm 6), .int 0, .ref (mm 7), .ref (mm 8), .ref (mm 9), .int fw, .ref (mm 10), .ref (mm 11), .int 0, .int 0, .ref (mm 12), .ref (mm 13), .int 0, .ref (mm 14), .ref (mm 15), .ref (mm 16)])), ((mm 1), .inl (k 0, 1227, .inl f)), ((mm 6), .inl (k 0, 2454, .inl f_2))]) [0, 1, 2] rfl
    have hD9 := hD.sub (ws' := [((mm 0), .inr (7, [.int 0, .ref (mm 1), .ref (mm 2), .ref (mm 3), .ref (mm 4), .ref (mm 5), .int 0, .int 0, .int 0, .int 0, .int 0, .int 0, .int 0, .int 0, .int 0, .int (-1), .int 0, .ref (mm 6), .int 0, .ref (mm 7), .ref (mm 8), .ref (mm 9), .int fw, .ref (mm 10), .ref (mm 11), .int 0, .int 0, .ref (mm 12), .ref (mm 13), .int 0, .ref (mm 14), .ref (mm 15), .ref (mm 16)])), ((mm 1), .inl (k 0, 1227, .inl f)), ((mm 6), .inl (k 0, 2454, .inl f_2))]) [0, 1, 2] (by decide) rfl
    exact W.vret hx hb hr (fun t ht hW => ⟨⟨(f_2), rfl, h_4, by rw [ht]; exact hP9, hD9⟩, hS.F ht⟩) hS.2.2 dX8_keeps_33
  · have c_5 : i_1.toInt < 409 := ti_nle c_5
    refine lv_aload_n hx hb dX8_keeps_9 rfl (lv_at hl 1 rfl) ?_
    refine va_get (D := D) (ci := 7) (v := .ref (mm 6)) (C := RX8) (T := TX8) (N := 33) hx hb hts inlX8 hown hK hP 0 rfl rfl 17 (by decide) (hts _ mw_97) (fun _ h9 => h9) rfl dX8_keeps_10 ?_
    refine lv_sipush (v := 409) hx hb dX8_keeps_13 (by decide) ?_
    refine lv_iload_n hx hb dX8_keeps_16 rfl (lv_at hl 2 rfl) ?_
    refine lv_imul hx hb dX8_keeps_17 ?_
    refine lv_ni (v := 409) (by decide) ?_
    refine lv_iload_n hx hb dX8_keeps_18 rfl (lv_at hl 0 rfl) ?_
    refine lv_iadd hx hb dX8_keeps_19 ?_
    refine lv_topi (fun z_6 ez_6 => ?_)
    have tz_6 : z_6.toInt = 409 + i_1.toInt := by rw [ez_6]; exact ti_addcl (by decide) (by omega) (by omega)
    refine lv_aload_n hx hb dX8_keeps_20 rfl (lv_at hl 1 rfl) ?_
    refine va_get (D := D) (ci := 7) (v := .ref (mm 1)) (C := RX8) (T := TX8) (N := 33) hx hb hts inlX8 hown hK hP 0 rfl rfl 1 (by decide) (hts _ mw_91) (fun _ h9 => h9) rfl dX8_keeps_21 ?_
    refine lv_iload_n hx hb dX8_keeps_24 rfl (lv_at hl 0 rfl) ?_
    refine va_iald hx hb hK hP 1 0 rfl rfl (vp_in_o (by omega) (by omega)) dX8_keeps_25 ?_
    refine lv_topi (fun z_7 ez_7 => ?_)
    refine va_iast hx hb hK hP hD hS 2 0 rfl rfl (vp_in_o (by omega) (by omega)) dX8_keeps_26 (fun H locs hP hD hS => ?_)
    have hP : va_P D vwCl [((mm 0), .inr (7, [.int 0, .ref (mm 1), .ref (mm 2), .ref (mm 3), .ref (mm 4), .ref (mm 5), .int 0, .int 0, .int 0, .int 0, .int 0, .int 0, .int 0, .int 0, .int 0, .int (-1), .int 0, .ref (mm 6), .int 0, .ref (mm 7), .ref (mm 8), .ref (mm 9), .int fw, .ref (mm 10), .ref (mm 11), .int 0, .int 0, .ref (mm 12), .ref (mm 13), .int 0, .ref (mm 14), .ref (mm 15), .ref (mm 16)])), ((mm 1), .inl (k 0, 1227, .inl f)), ((mm 6), .inl (k 0, 2454, .inl (upd f_2 z_6.toNatClampNeg z_7)))] H := hP
    have hD : va_D A [((mm 0), .inr (7, [.int 0, .ref (mm 1), .ref (mm 2), .ref (mm 3), .ref (mm 4), .ref (mm 5), .int 0, .int 0, .int 0, .int 0, .int 0, .int 0, .int 0, .int 0, .int 0, .int (-1), .int 0, .ref (mm 6), .int 0, .ref (mm 7), .ref (mm 8), .ref (mm 9), .int fw, .ref (mm 10), .ref (mm 11), .int 0, .int 0, .ref (mm 12), .ref (mm 13), .int 0, .ref (mm 14), .ref (mm 15), .ref (mm 16)])), ((mm 1), .inl (k 0, 1227, .inl f)), ((mm 6), .inl (k 0, 2454, .inl (upd f_2 z_6.toNatClampNeg z_7)))] := hD
    generalize ef_8 : (upd f_2 z_6.toNatClampNeg z_7) = f_8 at hP hD
    have hf_8 : KZ f_8 := by rw [← ef_8]; exact KZ_upd h_4 (fun lv h => by rw [ez_7, ti_cl, show i_1.toInt.toNat = 0 from by omega]; exact hf) (by omega)
    obtain ⟨z_9, ez_9⟩ : ∃ y : Int32, y = i_1 + 1 := ⟨_, rfl⟩
    have tz_9 : z_9.toInt = i_1.toInt + 1 := by rw [ez_9]; exact ti_addc (by decide) (by omega) (by omega)
    refine lv_iinc (v := z_9) (lv' := [(2, .int z_9), (0, .ref (mm 0)), (1, .int 1)]) hx hb dX8_keeps_27 hl (k := 0) rfl (ez_9.symm) (by decide) rfl (fun ls hl => ?_)
    refine lv_goto (tgt := 2) hx hb dX8_keeps_30 (by decide) ?_
    exact ih (z_9, f_8) _ _ ls (by show (409 - z_9.toInt).toNat < (409 - i_1.toInt).toNat; omega) ⟨(show 0 ≤ z_9.toInt ∧ z_9.toInt ≤ 409 from ⟨by omega, by omega⟩), hf_8, hP.sub [0, 1, 2] rfl, hD.sub [0, 1, 2] (by decide) rfl, hS, lv_sub hl [0, 1, 2] rfl⟩
set_option maxHeartbeats 4000000 in
set_option maxRecDepth 100000 in
theorem c_M_isAgain1 (l : Launch) (D : va_G) (k : Nat → ClassId) (mm : Nat → Nat) (fw : Int32) (f : Nat → Int32) (kp : Nat → Int32) (sz : Nat) (hf : f 0 = 0) (hk : KZ kp) : Met l yX8_isAgain (Cond.code yX8_isAgain cX8_isAgain 3 none :: wsL_law) ({ frames := 0, cells := 0, slots := 0, locals := 0 } : Room) (va_Pc [.ref (mm 0), .int 1] (pu D k sz [((mm 0), .inr (7, [.int 0, .ref (mm 1), .ref (mm 2), .ref (mm 3), .ref (mm 4), .ref (mm 5), .int 0, .int 0, .int 0, .int 0, .int 0, .int 0, .int 0, .int 0, .int 0, .int (-1), .int 0, .ref (mm 6), .int 0, .ref (mm 7), .ref (mm 8), .ref (mm 9), .int fw, .ref (mm 10), .ref (mm 11), .int 0, .int 0, .ref (mm 12), .ref (mm 13), .int 0, .ref (mm 14), .ref (mm 15), .ref (mm 16)])), ((mm 1), .inl (k 0, 1227, .inl f)), ((mm 6), .inl (k 0, 2454, .inl kp))])) (va_Qv (fun uu : Nat → Int32 => uu 0 = 0) (qu D (va_A [((mm 0), .inr (7, [.int 0, .ref (mm 1), .ref (mm 2), .ref (mm 3), .ref (mm 4), .ref (mm 5), .int 0, .int 0, .int 0, .int 0, .int 0, .int 0, .int 0, .int 0, .int 0, .int (-1), .int 0, .ref (mm 6), .int 0, .ref (mm 7), .ref (mm 8), .ref (mm 9), .int fw, .ref (mm 10), .ref (mm 11), .int 0, .int 0, .ref (mm 12), .ref (mm 13), .int 0, .ref (mm 14), .ref (mm 15), .ref (mm 16)])), ((mm 1), .inl (k 0, 1227, .inl f)), ((mm 6), .inl (k 0, 2454, .inl kp))] sz) (fun uu : Nat → Int32 => [((mm 0), .inr (7, [.int 0, .ref (mm 1), .ref (mm 2), .ref (mm 3), .ref (mm 4), .ref (mm 5), .int 0, .int 0, .int 0, .int 0, .int 0, .int 0, .int 0, .int 0, .int 0, .int (-1), .int 0, .ref (mm 6), .int 0, .ref (mm 7), .ref (mm 8), .ref (mm 9), .int fw, .ref (mm 10), .ref (mm 11), .int 0, .int 0, .ref (mm 12), .ref (mm 13), .int 0, .ref (mm 14), .ref (mm 15), .ref (mm 16)])), ((mm 1), .inl (k 0, 1227, .inl uu)), ((mm 6), .inl (k 0, 2454, .inl kp))])) (va_A [((mm 0), .inr (7, [.int 0, .ref (mm 1), .ref (mm 2), .ref (mm 3), .ref (mm 4), .ref (mm 5), .int 0, .int 0, .int 0, .int 0, .int 0, .int 0, .int 0, .int 0, .int 0, .int (-1), .int 0, .ref (mm 6), .int 0, .ref (mm 7), .ref (mm 8), .ref (mm 9), .int fw, .ref (mm 10), .ref (mm 11), .int 0, .int 0, .ref (mm 12), .ref (mm 13), .int 0, .ref (mm 14), .ref (mm 15), .ref (mm 16)])), ((mm 1), .inl (k 0, 1227, .inl f)), ((mm 6), .inl (k 0, 2454, .inl kp))] sz)) 0 0 (va_A [((mm 0), .inr (7, [.int 0, .ref (mm 1), .ref (mm 2), .ref (mm 3), .ref (mm 4), .ref (mm 5), .int 0, .int 0, .int 0, .int 0, .int 0, .int 0, .int 0, .int 0, .int 0, .int (-1), .int 0, .ref (mm 6), .int 0, .ref (mm 7), .ref (mm 8), .ref (mm 9), .int fw, .ref (mm 10), .ref (mm 11), .int 0, .int 0, .ref (mm 12), .ref (mm 13), .int 0, .ref (mm 14), .ref (mm 15), .ref (mm 16)])), ((mm 1), .inl (k 0, 1227, .inl f)), ((mm 6), .inl (k 0, 2454, .inl kp))] sz) := by
  refine Met.ofW (cc := cX8_isAgain) (maxL := 3) (ret := none) (by decide) rfl ?_
  intro p e s m args below meth c s₁ B hml hv
  obtain ⟨rfl, hsz, hP, hK, hD0⟩ := hv
  have hx := B.exec
  have hb := B.bytes
  have hr := B.returns
  have hts : ∀ w ∈ wsL_law, w.before _ s = true := fun w h => atoms_spec (ws := Cond.code yX8_isAgain cX8_isAgain 3 none :: wsL_law) B.pre w (List.mem_cons_of_mem _ h)
  have hown : s.vm.findClass RX8 = some m.cls := findClass_of_methodNamed B.named
  have hlocks := B.notSynchronized
  subst hsz
  have hD := hD0.self (sz := s.heap.size)
  generalize hAe : va_A [((mm 0), .inr (7, [.int 0, .ref (mm 1), .ref (mm 2), .ref (mm 3), .ref (mm 4), .ref (mm 5), .int 0, .int 0, .int 0, .int 0, .int 0, .int 0, .int 0, .int 0, .int 0, .int (-1), .int 0, .ref (mm 6), .int 0, .ref (mm 7), .ref (mm 8), .ref (mm 9), .int fw, .ref (mm 10), .ref (mm 11), .int 0, .int 0, .ref (mm 12), .ref (mm 13), .int 0, .ref (mm 14), .ref (mm 15), .ref (mm 16)])), ((mm 1), .inl (k 0, 1227, .inl f)), ((mm 6), .inl (k 0, 2454, .inl kp))] s.heap.size = A at hD ⊢
  have hA : ∀ q : Nat, s.heap.size ≤ q → A q := fun q h => by rw [← hAe]; exact Or.inr h
  have hS : va_S A s.heap s.heap [] := va_S.rf
  have hP : va_P D vwCl [((mm 0), .inr (7, [.int 0, .ref (mm 1), .ref (mm 2), .ref (mm 3), .ref (mm 4), .ref (mm 5), .int 0, .int 0, .int 0, .int 0, .int 0, .int 0, .int 0, .int 0, .int 0, .int (-1), .int 0, .ref (mm 6), .int 0, .ref (mm 7), .ref (mm 8), .ref (mm 9), .int fw, .ref (mm 10), .ref (mm 11), .int 0, .int 0, .ref (mm 12), .ref (mm 13), .int 0, .ref (mm 14), .ref (mm 15), .ref (mm 16)])), ((mm 1), .inl (k 0, 1227, .inl f)), ((mm 6), .inl (k 0, 2454, .inl kp))] s.heap := hP
  have hl := lv_entry ([.ref (mm 0), .int 1]) (n := 3) (Nat.le_of_ble_eq_true rfl)
  rw [lg_entry_eq]
  generalize (lg_sl ([.ref (mm 0), .int 1]) ++ List.replicate (3 - (lg_sl ([.ref (mm 0), .int 1])).length) Slot.unset).toArray = ls at hl ⊢
  have hl : lv_has ls 3 [(0, .ref (mm 0)), (1, .int 1)] := hl
  refine lv_iconst (v := 0) hx hb dX8_isAgain_0 (by decide) ?_
  refine lv_istore_n (lv' := [(2, .int 0), (0, .ref (mm 0)), (1, .int 1)]) hx hb dX8_isAgain_1 rfl hl (by decide) rfl (fun ls hl => ?_)
  refine W_loop (σ := Int32 × (Nat → Int32)) (fun xx H locs ls => (0 ≤ xx.1.toInt ∧ xx.1.toInt ≤ 409) ∧ (xx.2 0 = 0) ∧ va_P D vwCl [((mm 0), .inr (7, [.int 0, .ref (mm 1), .ref (mm 2), .ref (mm 3), .ref (mm 4), .ref (mm 5), .int 0, .int 0, .int 0, .int 0, .int 0, .int 0, .int 0, .int 0, .int 0, .int (-1), .int 0, .ref (mm 6), .int 0, .ref (mm 7), .ref (mm 8), .ref (mm 9), .int fw, .ref (mm 10), .ref (mm 11), .int 0, .int 0, .ref (mm 12), .ref (mm 13), .int 0, .ref (mm 14), .ref (mm 15), .ref (mm 16)])), ((mm 1), .inl (k 0, 1227, .inl xx.2)), ((mm 6), .inl (k 0, 2454, .inl kp))] H ∧ va_D A [((mm 0), .inr (7, [.int 0, .ref (mm 1), .ref (mm 2), .ref (mm 3), .ref (mm 4), .ref (mm 5), .int 0, .int 0, .int 0, .int 0, .int 0, .int 0, .int 0, .int 0, .int 0, .int (-1), .int 0, .ref (mm 6), .int 0, .ref (mm 7), .ref (mm 8), .ref (mm 9), .int fw, .ref (mm 10), .ref (mm 11), .int 0, .int 0, .ref (mm 12), .ref (mm 13), .int 0, .ref (mm 14), .ref (mm 15), .ref (mm 16)])), ((mm 1), .inl (k 0, 1227, .inl xx.2)), ((mm 6), .inl (k 0, 2454, .inl kp))] ∧ va_S A s.heap H locs ∧ lv_has ls 3 [(2, .int xx.1), (0, .ref (mm 0)), (1, .int 1)]) (fun xx => (409 - xx.1.toInt).toNat) ?_ (0, f) _ _ ls ⟨(show 0 ≤ (0 : Int32).toInt ∧ (0 : Int32).toInt ≤ 409 from ⟨by decide, by decide⟩), hf, hP.sub [0, 1, 2] rfl, hD.sub [0, 1, 2] (by decide) rfl, hS, lv_sub hl [0, 1, 2] rfl⟩
  intro xx H locs ls hI ih
  obtain ⟨i_1, f_2⟩ := xx
  obtain ⟨h_3, h_4, hP, hD, hS, hl⟩ := hI
  have h_3 : 0 ≤ i_1.toInt ∧ i_1.toInt ≤ 409 := h_3
  have h_4 : f_2 0 = 0 := h_4
  obtain ⟨h_3a, h_3b⟩ := h_3
  have hP : va_P D vwCl [((mm 0), .inr (7, [.int 0, .ref (mm 1), .ref (mm 2), .ref (mm 3), .ref (mm 4), .ref (mm 5), .int 0, .int 0, .int 0, .int 0, .int 0, .int 0, .int 0, .int 0, .int 0, .int (-1), .int 0, .ref (mm 6), .int 0, .ref (mm 7), .ref (mm 8), .ref (mm 9), .int fw, .ref (mm 10), .ref (mm 11), .int 0, .int 0, .ref (mm 12), .ref (mm 13), .int 0, .ref (mm 14), .ref (mm 15), .ref (mm 16)])), ((mm 1), .inl (k 0, 1227, .inl f_2)), ((mm 6), .inl (k 0, 2454, .inl kp))] H := hP
  have hD : va_D A [((mm 0), .inr (7, [.int 0, .ref (mm 1), .ref (mm 2), .ref (mm 3), .ref (mm 4), .ref (mm 5), .int 0, .int 0, .int 0, .int 0, .int 0, .int 0, .int 0, .int 0, .int 0, .int (-1), .int 0, .ref (mm 6), .int 0, .ref (mm 7), .ref (mm 8), .ref (mm 9), .int fw, .ref (mm 10), .ref (mm 11), .int 0, .int 0, .ref (mm 12), .ref (mm 13), .int 0, .ref (mm 14), .ref (mm 15), .ref (mm 16)])), ((mm 1), .inl (k 0, 1227, .inl f_2)), ((mm 6), .inl (k 0, 2454, .inl kp))] := hD
  have hl : lv_has ls 3 [(2, .int i_1), (0, .ref (mm 0)), (1, .int 1)] := hl
  refine lv_iload_n hx hb dX8_isAgain_2 rfl (lv_at hl 0 rfl) ?_
  refine lv_sipush (v := 409) hx hb dX8_isAgain_3 (by decide) ?_
  refine lv_icmp_ge (tgt := 33) hx hb dX8_isAgain_6 (by decide) (fun c_5 => ?_) (fun c_5 => ?_)
  · have c_5 : 409 ≤ i_1.toInt := ti_le c_5
    have qc_5 : i_1 = 409 := ti_of (show i_1.toInt = 409 from by omega)
    have hP9 := hP.sub (ws' := [((mm 0), .inr (7, [.int 0, .ref (mm 1), .ref (mm 2), .ref (mm 3), .ref (mm 4), .ref (mm 5), .int 0, .int 0, .int 0, .int 0, .int 0, .int 0, .int 0, .int 0, .int 0, .int (-1), .int 0, .ref (mm 6), .int 0, .ref (mm 7), .ref (mm 8), .ref (mm 9), .int fw, .ref (mm 10), .ref (mm 11), .int 0, .int 0, .ref (mm 12), .ref (mm 13), .int 0, .ref (mm 14), .ref (mm 15), .ref (mm 16)])), ((mm 1), .inl (k 0, 1227, .inl f_2)), ((mm 6), .inl (k 0, 2454, .inl kp))]) [0, 1, 2] rfl
    have hD9 := hD.sub (ws' := [((mm 0), .inr (7, [.int 0, .ref (mm 1), .ref (mm 2), .ref (mm 3), .ref (mm 4), .ref (mm 5), .int 0, .int 0, .int 0, .int 0, .int 0, .int 0, .int 0, .int 0, .int 0, .int (-1), .int 0, .ref (mm 6), .int 0, .ref (mm 7), .ref (mm 8), .ref (mm 9), .int fw, .ref (mm 10), .ref (mm 11), .int 0, .int 0, .ref (mm 12), .ref (mm 13), .int 0, .ref (mm 14), .ref (mm 15), .ref (mm 16)])), ((mm 1), .inl (k 0, 1227, .inl f_2)), ((mm 6), .inl (k 0, 2454, .inl kp))]) [0, 1, 2] (by decide) rfl
    exact W.vret hx hb hr (fun t ht hW => ⟨⟨(f_2), rfl, h_4, by rw [ht]; exact hP9, hD9⟩, hS.F ht⟩) hS.2.2 dX8_isAgain_33
  · have c_5 : i_1.toInt < 409 := ti_nle c_5
    refine lv_aload_n hx hb dX8_isAgain_9 rfl (lv_at hl 1 rfl) ?_
    refine va_get (D := D) (ci := 7) (v := .ref (mm 1)) (C := RX8) (T := TX8) (N := 33) hx hb hts inlX8 hown hK hP 0 rfl rfl 1 (by decide) (hts _ mw_91) (fun _ h9 => h9) rfl dX8_isAgain_10 ?_
    refine lv_iload_n hx hb dX8_isAgain_13 rfl (lv_at hl 0 rfl) ?_
    refine lv_aload_n hx hb dX8_isAgain_14 rfl (lv_at hl 1 rfl) ?_
    refine va_get (D := D) (ci := 7) (v := .ref (mm 6)) (C := RX8) (T := TX8) (N := 33) hx hb hts inlX8 hown hK hP 0 rfl rfl 17 (by decide) (hts _ mw_97) (fun _ h9 => h9) rfl dX8_isAgain_15 ?_
    refine lv_sipush (v := 409) hx hb dX8_isAgain_18 (by decide) ?_
    refine lv_iload_n hx hb dX8_isAgain_21 rfl (lv_at hl 2 rfl) ?_
    refine lv_imul hx hb dX8_isAgain_22 ?_
    refine lv_ni (v := 409) (by decide) ?_
    refine lv_iload_n hx hb dX8_isAgain_23 rfl (lv_at hl 0 rfl) ?_
    refine lv_iadd hx hb dX8_isAgain_24 ?_
    refine lv_topi (fun z_6 ez_6 => ?_)
    have tz_6 : z_6.toInt = 409 + i_1.toInt := by rw [ez_6]; exact ti_addcl (by decide) (by omega) (by omega)
    refine va_iald hx hb hK hP 2 0 rfl rfl (vp_in_o (by omega) (by omega)) dX8_isAgain_25 ?_
    refine lv_topi (fun z_7 ez_7 => ?_)
    refine va_iast hx hb hK hP hD hS 1 0 rfl rfl (vp_in_o (by omega) (by omega)) dX8_isAgain_26 (fun H locs hP hD hS => ?_)
    have hP : va_P D vwCl [((mm 0), .inr (7, [.int 0, .ref (mm 1), .ref (mm 2), .ref (mm 3), .ref (mm 4), .ref (mm 5), .int 0, .int 0, .int 0, .int 0, .int 0, .int 0, .int 0, .int 0, .int 0, .int (-1), .int 0, .ref (mm 6), .int 0, .ref (mm 7), .ref (mm 8), .ref (mm 9), .int fw, .ref (mm 10), .ref (mm 11), .int 0, .int 0, .ref (mm 12), .ref (mm 13), .int 0, .ref (mm 14), .ref (mm 15), .ref (mm 16)])), ((mm 1), .inl (k 0, 1227, .inl (upd f_2 i_1.toNatClampNeg z_7))), ((mm 6), .inl (k 0, 2454, .inl kp))] H := hP
    have hD : va_D A [((mm 0), .inr (7, [.int 0, .ref (mm 1), .ref (mm 2), .ref (mm 3), .ref (mm 4), .ref (mm 5), .int 0, .int 0, .int 0, .int 0, .int 0, .int 0, .int 0, .int 0, .int 0, .int (-1), .int 0, .ref (mm 6), .int 0, .ref (mm 7), .ref (mm 8), .ref (mm 9), .int fw, .ref (mm 10), .ref (mm 11), .int 0, .int 0, .ref (mm 12), .ref (mm 13), .int 0, .ref (mm 14), .ref (mm 15), .ref (mm 16)])), ((mm 1), .inl (k 0, 1227, .inl (upd f_2 i_1.toNatClampNeg z_7))), ((mm 6), .inl (k 0, 2454, .inl kp))] := hD
    generalize ef_8 : (upd f_2 i_1.toNatClampNeg z_7) = f_8 at hP hD
    have hf_8_0 : f_8 0 = 0 := by rw [← ef_8]; exact upd_at h_4 (fun h => by rw [ez_7, ti_cl]; exact KZ_at hk 1 (by omega)) (by omega)
    obtain ⟨z_9, ez_9⟩ : ∃ y : Int32, y = i_1 + 1 := ⟨_, rfl⟩
    have tz_9 : z_9.toInt = i_1.toInt + 1 := by rw [ez_9]; exact ti_addc (by decide) (by omega) (by omega)
    refine lv_iinc (v := z_9) (lv' := [(2, .int z_9), (0, .ref (mm 0)), (1, .int 1)]) hx hb dX8_isAgain_27 hl (k := 0) rfl (ez_9.symm) (by decide) rfl (fun ls hl => ?_)
    refine lv_goto (tgt := 2) hx hb dX8_isAgain_30 (by decide) ?_
    exact ih (z_9, f_8) _ _ ls (by show (409 - z_9.toInt).toNat < (409 - i_1.toInt).toNat; omega) ⟨(show 0 ≤ z_9.toInt ∧ z_9.toInt ≤ 409 from ⟨by omega, by omega⟩), hf_8_0, hP.sub [0, 1, 2] rfl, hD.sub [0, 1, 2] (by decide) rfl, hS, lv_sub hl [0, 1, 2] rfl⟩
set_option maxHeartbeats 4000000 in
set_option maxRecDepth 100000 in
theorem c_M_keeps2 (l : Launch) (D : va_G) (k : Nat → ClassId) (mm : Nat → Nat) (fw : Int32) (f : Nat → Int32) (kp : Nat → Int32) (sz : Nat) (hf : f 0 = 0) (hk : KZ kp) : Met l yX8_keeps (Cond.code yX8_keeps cX8_keeps 3 none :: wsL_law) ({ frames := 0, cells := 0, slots := 0, locals := 0 } : Room) (va_Pc [.ref (mm 0), .int 2] (pu D k sz [((mm 0), .inr (7, [.int 0, .ref (mm 1), .ref (mm 2), .ref (mm 3), .ref (mm 4), .ref (mm 5), .int 0, .int 0, .int 0, .int 0, .int 0, .int 0, .int 0, .int 0, .int 0, .int (-1), .int 0, .ref (mm 6), .int 0, .ref (mm 7), .ref (mm 8), .ref (mm 9), .int fw, .ref (mm 10), .ref (mm 11), .int 0, .int 0, .ref (mm 12), .ref (mm 13), .int 0, .ref (mm 14), .ref (mm 15), .ref (mm 16)])), ((mm 1), .inl (k 0, 1227, .inl f)), ((mm 6), .inl (k 0, 2454, .inl kp))])) (va_Qv (fun uu : Nat → Int32 => KZ uu) (qu D (va_A [((mm 0), .inr (7, [.int 0, .ref (mm 1), .ref (mm 2), .ref (mm 3), .ref (mm 4), .ref (mm 5), .int 0, .int 0, .int 0, .int 0, .int 0, .int 0, .int 0, .int 0, .int 0, .int (-1), .int 0, .ref (mm 6), .int 0, .ref (mm 7), .ref (mm 8), .ref (mm 9), .int fw, .ref (mm 10), .ref (mm 11), .int 0, .int 0, .ref (mm 12), .ref (mm 13), .int 0, .ref (mm 14), .ref (mm 15), .ref (mm 16)])), ((mm 1), .inl (k 0, 1227, .inl f)), ((mm 6), .inl (k 0, 2454, .inl kp))] sz) (fun uu : Nat → Int32 => [((mm 0), .inr (7, [.int 0, .ref (mm 1), .ref (mm 2), .ref (mm 3), .ref (mm 4), .ref (mm 5), .int 0, .int 0, .int 0, .int 0, .int 0, .int 0, .int 0, .int 0, .int 0, .int (-1), .int 0, .ref (mm 6), .int 0, .ref (mm 7), .ref (mm 8), .ref (mm 9), .int fw, .ref (mm 10), .ref (mm 11), .int 0, .int 0, .ref (mm 12), .ref (mm 13), .int 0, .ref (mm 14), .ref (mm 15), .ref (mm 16)])), ((mm 1), .inl (k 0, 1227, .inl f)), ((mm 6), .inl (k 0, 2454, .inl uu))])) (va_A [((mm 0), .inr (7, [.int 0, .ref (mm 1), .ref (mm 2), .ref (mm 3), .ref (mm 4), .ref (mm 5), .int 0, .int 0, .int 0, .int 0, .int 0, .int 0, .int 0, .int 0, .int 0, .int (-1), .int 0, .ref (mm 6), .int 0, .ref (mm 7), .ref (mm 8), .ref (mm 9), .int fw, .ref (mm 10), .ref (mm 11), .int 0, .int 0, .ref (mm 12), .ref (mm 13), .int 0, .ref (mm 14), .ref (mm 15), .ref (mm 16)])), ((mm 1), .inl (k 0, 1227, .inl f)), ((mm 6), .inl (k 0, 2454, .inl kp))] sz)) 0 0 (va_A [((mm 0), .inr (7, [.int 0, .ref (mm 1), .ref (mm 2), .ref (mm 3), .ref (mm 4), .ref (mm 5), .int 0, .int 0, .int 0, .int 0, .int 0, .int 0, .int 0, .int 0, .int 0, .int (-1), .int 0, .ref (mm 6), .int 0, .ref (mm 7), .ref (mm 8), .ref (mm 9), .int fw, .ref (mm 10), .ref (mm 11), .int 0, .int 0, .ref (mm 12), .ref (mm 13), .int 0, .ref (mm 14), .ref (mm 15), .ref (mm 16)])), ((mm 1), .inl (k 0, 1227, .inl f)), ((mm 6), .inl (k 0, 2454, .inl kp))] sz) := by
  refine Met.ofW (cc := cX8_keeps) (maxL := 3) (ret := none) (by decide) rfl ?_
  intro p e s m args below meth c s₁ B hml hv
  obtain ⟨rfl, hsz, hP, hK, hD0⟩ := hv
  have hx := B.exec
  have hb := B.bytes
  have hr := B.returns
  have hts : ∀ w ∈ wsL_law, w.before _ s = true := fun w h => atoms_spec (ws := Cond.code yX8_keeps cX8_keeps 3 none :: wsL_law) B.pre w (List.mem_cons_of_mem _ h)
  have hown : s.vm.findClass RX8 = some m.cls := findClass_of_methodNamed B.named
  have hlocks := B.notSynchronized
  subst hsz
  have hD := hD0.self (sz := s.heap.size)
  generalize hAe : va_A [((mm 0), .inr (7, [.int 0, .ref (mm 1), .ref (mm 2), .ref (mm 3), .ref (mm 4), .ref (mm 5), .int 0, .int 0, .int 0, .int 0, .int 0, .int 0, .int 0, .int 0, .int 0, .int (-1), .int 0, .ref (mm 6), .int 0, .ref (mm 7), .ref (mm 8), .ref (mm 9), .int fw, .ref (mm 10), .ref (mm 11), .int 0, .int 0, .ref (mm 12), .ref (mm 13), .int 0, .ref (mm 14), .ref (mm 15), .ref (mm 16)])), ((mm 1), .inl (k 0, 1227, .inl f)), ((mm 6), .inl (k 0, 2454, .inl kp))] s.heap.size = A at hD ⊢
  have hA : ∀ q : Nat, s.heap.size ≤ q → A q := fun q h => by rw [← hAe]; exact Or.inr h
  have hS : va_S A s.heap s.heap [] := va_S.rf
  have hP : va_P D vwCl [((mm 0), .inr (7, [.int 0, .ref (mm 1), .ref (mm 2), .ref (mm 3), .ref (mm 4), .ref (mm 5), .int 0, .int 0, .int 0, .int 0, .int 0, .int 0, .int 0, .int 0, .int 0, .int (-1), .int 0, .ref (mm 6), .int 0, .ref (mm 7), .ref (mm 8), .ref (mm 9), .int fw, .ref (mm 10), .ref (mm 11), .int 0, .int 0, .ref (mm 12), .ref (mm 13), .int 0, .ref (mm 14), .ref (mm 15), .ref (mm 16)])), ((mm 1), .inl (k 0, 1227, .inl f)), ((mm 6), .inl (k 0, 2454, .inl kp))] s.heap := hP
  have hl := lv_entry ([.ref (mm 0), .int 2]) (n := 3) (Nat.le_of_ble_eq_true rfl)
  rw [lg_entry_eq]
  generalize (lg_sl ([.ref (mm 0), .int 2]) ++ List.replicate (3 - (lg_sl ([.ref (mm 0), .int 2])).length) Slot.unset).toArray = ls at hl ⊢
  have hl : lv_has ls 3 [(0, .ref (mm 0)), (1, .int 2)] := hl
  refine lv_iconst (v := 0) hx hb dX8_keeps_0 (by decide) ?_
  refine lv_istore_n (lv' := [(2, .int 0), (0, .ref (mm 0)), (1, .int 2)]) hx hb dX8_keeps_1 rfl hl (by decide) rfl (fun ls hl => ?_)
  refine W_loop (σ := Int32 × (Nat → Int32)) (fun xx H locs ls => (0 ≤ xx.1.toInt ∧ xx.1.toInt ≤ 409) ∧ (KZ xx.2) ∧ va_P D vwCl [((mm 0), .inr (7, [.int 0, .ref (mm 1), .ref (mm 2), .ref (mm 3), .ref (mm 4), .ref (mm 5), .int 0, .int 0, .int 0, .int 0, .int 0, .int 0, .int 0, .int 0, .int 0, .int (-1), .int 0, .ref (mm 6), .int 0, .ref (mm 7), .ref (mm 8), .ref (mm 9), .int fw, .ref (mm 10), .ref (mm 11), .int 0, .int 0, .ref (mm 12), .ref (mm 13), .int 0, .ref (mm 14), .ref (mm 15), .ref (mm 16)])), ((mm 1), .inl (k 0, 1227, .inl f)), ((mm 6), .inl (k 0, 2454, .inl xx.2))] H ∧ va_D A [((mm 0), .inr (7, [.int 0, .ref (mm 1), .ref (mm 2), .ref (mm 3), .ref (mm 4), .ref (mm 5), .int 0, .int 0, .int 0, .int 0, .int 0, .int 0, .int 0, .int 0, .int 0, .int (-1), .int 0, .ref (mm 6), .int 0, .ref (mm 7), .ref (mm 8), .ref (mm 9), .int fw, .ref (mm 10), .ref (mm 11), .int 0, .int 0, .ref (mm 12), .ref (mm 13), .int 0, .ref (mm 14), .ref (mm 15), .ref (mm 16)])), ((mm 1), .inl (k 0, 1227, .inl f)), ((mm 6), .inl (k 0, 2454, .inl xx.2))] ∧ va_S A s.heap H locs ∧ lv_has ls 3 [(2, .int xx.1), (0, .ref (mm 0)), (1, .int 2)]) (fun xx => (409 - xx.1.toInt).toNat) ?_ (0, kp) _ _ ls ⟨(show 0 ≤ (0 : Int32).toInt ∧ (0 : Int32).toInt ≤ 409 from ⟨by decide, by decide⟩), hk, hP.sub [0, 1, 2] rfl, hD.sub [0, 1, 2] (by decide) rfl, hS, lv_sub hl [0, 1, 2] rfl⟩
  intro xx H locs ls hI ih
  obtain ⟨i_1, f_2⟩ := xx
  obtain ⟨h_3, h_4, hP, hD, hS, hl⟩ := hI
  have h_3 : 0 ≤ i_1.toInt ∧ i_1.toInt ≤ 409 := h_3
  have h_4 : KZ f_2 := h_4
  obtain ⟨h_3a, h_3b⟩ := h_3
  have hP : va_P D vwCl [((mm 0), .inr (7, [.int 0, .ref (mm 1), .ref (mm 2), .ref (mm 3), .ref (mm 4), .ref (mm 5), .int 0, .int 0, .int 0, .int 0, .int 0, .int 0, .int 0, .int 0, .int 0, .int (-1), .int 0, .ref (mm 6), .int 0, .ref (mm 7), .ref (mm 8), .ref (mm 9), .int fw, .ref (mm 10), .ref (mm 11), .int 0, .int 0, .ref (mm 12), .ref (mm 13), .int 0, .ref (mm 14), .ref (mm 15), .ref (mm 16)])), ((mm 1), .inl (k 0, 1227, .inl f)), ((mm 6), .inl (k 0, 2454, .inl f_2))] H := hP
  have hD : va_D A [((mm 0), .inr (7, [.int 0, .ref (mm 1), .ref (mm 2), .ref (mm 3), .ref (mm 4), .ref (mm 5), .int 0, .int 0, .int 0, .int 0, .int 0, .int 0, .int 0, .int 0, .int 0, .int (-1), .int 0, .ref (mm 6), .int 0, .ref (mm 7), .ref (mm 8), .ref (mm 9), .int fw, .ref (mm 10), .ref (mm 11), .int 0, .int 0, .ref (mm 12), .ref (mm 13), .int 0, .ref (mm 14), .ref (mm 15), .ref (mm 16)])), ((mm 1), .inl (k 0, 1227, .inl f)), ((mm 6), .inl (k 0, 2454, .inl f_2))] := hD
  have hl : lv_has ls 3 [(2, .int i_1), (0, .ref (mm 0)), (1, .int 2)] := hl
  refine lv_iload_n hx hb dX8_keeps_2 rfl (lv_at hl 0 rfl) ?_
  refine lv_sipush (v := 409) hx hb dX8_keeps_3 (by decide) ?_
  refine lv_icmp_ge (tgt := 33) hx hb dX8_keeps_6 (by decide) (fun c_5 => ?_) (fun c_5 => ?_)
  · have c_5 : 409 ≤ i_1.toInt := ti_le c_5
    have qc_5 : i_1 = 409 := ti_of (show i_1.toInt = 409 from by omega)
    have hP9 := hP.sub (ws' := [((mm 0), .inr (7, [.int 0, .ref (mm 1), .ref (mm 2), .ref (mm 3), .ref (mm 4), .ref (mm 5), .int 0, .int 0, .int 0, .int 0, .int 0, .int 0, .int 0, .int 0, .int 0, .int (-1), .int 0, .ref (mm 6), .int 0, .ref (mm 7), .ref (mm 8), .ref (mm 9), .int fw, .ref (mm 10), .ref (mm 11), .int 0, .int 0, .ref (mm 12), .ref (mm 13), .int 0, .ref (mm 14), .ref (mm 15), .ref (mm 16)])), ((mm 1), .inl (k 0, 1227, .inl f)), ((mm 6), .inl (k 0, 2454, .inl f_2))]) [0, 1, 2] rfl
    have hD9 := hD.sub (ws' := [((mm 0), .inr (7, [.int 0, .ref (mm 1), .ref (mm 2), .ref (mm 3), .ref (mm 4), .ref (mm 5), .int 0, .int 0, .int 0, .int 0, .int 0, .int 0, .int 0, .int 0, .int 0, .int (-1), .int 0, .ref (mm 6), .int 0, .ref (mm 7), .ref (mm 8), .ref (mm 9), .int fw, .ref (mm 10), .ref (mm 11), .int 0, .int 0, .ref (mm 12), .ref (mm 13), .int 0, .ref (mm 14), .ref (mm 15), .ref (mm 16)])), ((mm 1), .inl (k 0, 1227, .inl f)), ((mm 6), .inl (k 0, 2454, .inl f_2))]) [0, 1, 2] (by decide) rfl
    exact W.vret hx hb hr (fun t ht hW => ⟨⟨(f_2), rfl, h_4, by rw [ht]; exact hP9, hD9⟩, hS.F ht⟩) hS.2.2 dX8_keeps_33
  · have c_5 : i_1.toInt < 409 := ti_nle c_5
    refine lv_aload_n hx hb dX8_keeps_9 rfl (lv_at hl 1 rfl) ?_
    refine va_get (D := D) (ci := 7) (v := .ref (mm 6)) (C := RX8) (T := TX8) (N := 33) hx hb hts inlX8 hown hK hP 0 rfl rfl 17 (by decide) (hts _ mw_97) (fun _ h9 => h9) rfl dX8_keeps_10 ?_
    refine lv_sipush (v := 409) hx hb dX8_keeps_13 (by decide) ?_
    refine lv_iload_n hx hb dX8_keeps_16 rfl (lv_at hl 2 rfl) ?_
    refine lv_imul hx hb dX8_keeps_17 ?_
    refine lv_ni (v := 818) (by decide) ?_
    refine lv_iload_n hx hb dX8_keeps_18 rfl (lv_at hl 0 rfl) ?_
    refine lv_iadd hx hb dX8_keeps_19 ?_
    refine lv_topi (fun z_6 ez_6 => ?_)
    have tz_6 : z_6.toInt = 818 + i_1.toInt := by rw [ez_6]; exact ti_addcl (by decide) (by omega) (by omega)
    refine lv_aload_n hx hb dX8_keeps_20 rfl (lv_at hl 1 rfl) ?_
    refine va_get (D := D) (ci := 7) (v := .ref (mm 1)) (C := RX8) (T := TX8) (N := 33) hx hb hts inlX8 hown hK hP 0 rfl rfl 1 (by decide) (hts _ mw_91) (fun _ h9 => h9) rfl dX8_keeps_21 ?_
    refine lv_iload_n hx hb dX8_keeps_24 rfl (lv_at hl 0 rfl) ?_
    refine va_iald hx hb hK hP 1 0 rfl rfl (vp_in_o (by omega) (by omega)) dX8_keeps_25 ?_
    refine lv_topi (fun z_7 ez_7 => ?_)
    refine va_iast hx hb hK hP hD hS 2 0 rfl rfl (vp_in_o (by omega) (by omega)) dX8_keeps_26 (fun H locs hP hD hS => ?_)
    have hP : va_P D vwCl [((mm 0), .inr (7, [.int 0, .ref (mm 1), .ref (mm 2), .ref (mm 3), .ref (mm 4), .ref (mm 5), .int 0, .int 0, .int 0, .int 0, .int 0, .int 0, .int 0, .int 0, .int 0, .int (-1), .int 0, .ref (mm 6), .int 0, .ref (mm 7), .ref (mm 8), .ref (mm 9), .int fw, .ref (mm 10), .ref (mm 11), .int 0, .int 0, .ref (mm 12), .ref (mm 13), .int 0, .ref (mm 14), .ref (mm 15), .ref (mm 16)])), ((mm 1), .inl (k 0, 1227, .inl f)), ((mm 6), .inl (k 0, 2454, .inl (upd f_2 z_6.toNatClampNeg z_7)))] H := hP
    have hD : va_D A [((mm 0), .inr (7, [.int 0, .ref (mm 1), .ref (mm 2), .ref (mm 3), .ref (mm 4), .ref (mm 5), .int 0, .int 0, .int 0, .int 0, .int 0, .int 0, .int 0, .int 0, .int 0, .int (-1), .int 0, .ref (mm 6), .int 0, .ref (mm 7), .ref (mm 8), .ref (mm 9), .int fw, .ref (mm 10), .ref (mm 11), .int 0, .int 0, .ref (mm 12), .ref (mm 13), .int 0, .ref (mm 14), .ref (mm 15), .ref (mm 16)])), ((mm 1), .inl (k 0, 1227, .inl f)), ((mm 6), .inl (k 0, 2454, .inl (upd f_2 z_6.toNatClampNeg z_7)))] := hD
    generalize ef_8 : (upd f_2 z_6.toNatClampNeg z_7) = f_8 at hP hD
    have hf_8 : KZ f_8 := by rw [← ef_8]; exact KZ_upd h_4 (fun lv h => by rw [ez_7, ti_cl, show i_1.toInt.toNat = 0 from by omega]; exact hf) (by omega)
    obtain ⟨z_9, ez_9⟩ : ∃ y : Int32, y = i_1 + 1 := ⟨_, rfl⟩
    have tz_9 : z_9.toInt = i_1.toInt + 1 := by rw [ez_9]; exact ti_addc (by decide) (by omega) (by omega)
    refine lv_iinc (v := z_9) (lv' := [(2, .int z_9), (0, .ref (mm 0)), (1, .int 2)]) hx hb dX8_keeps_27 hl (k := 0) rfl (ez_9.symm) (by decide) rfl (fun ls hl => ?_)
    refine lv_goto (tgt := 2) hx hb dX8_keeps_30 (by decide) ?_
    exact ih (z_9, f_8) _ _ ls (by show (409 - z_9.toInt).toNat < (409 - i_1.toInt).toNat; omega) ⟨(show 0 ≤ z_9.toInt ∧ z_9.toInt ≤ 409 from ⟨by omega, by omega⟩), hf_8, hP.sub [0, 1, 2] rfl, hD.sub [0, 1, 2] (by decide) rfl, hS, lv_sub hl [0, 1, 2] rfl⟩
set_option maxHeartbeats 4000000 in
set_option maxRecDepth 100000 in
theorem c_M_isAgain2 (l : Launch) (D : va_G) (k : Nat → ClassId) (mm : Nat → Nat) (fw : Int32) (f : Nat → Int32) (kp : Nat → Int32) (sz : Nat) (hf : f 0 = 0) (hk : KZ kp) : Met l yX8_isAgain (Cond.code yX8_isAgain cX8_isAgain 3 none :: wsL_law) ({ frames := 0, cells := 0, slots := 0, locals := 0 } : Room) (va_Pc [.ref (mm 0), .int 2] (pu D k sz [((mm 0), .inr (7, [.int 0, .ref (mm 1), .ref (mm 2), .ref (mm 3), .ref (mm 4), .ref (mm 5), .int 0, .int 0, .int 0, .int 0, .int 0, .int 0, .int 0, .int 0, .int 0, .int (-1), .int 0, .ref (mm 6), .int 0, .ref (mm 7), .ref (mm 8), .ref (mm 9), .int fw, .ref (mm 10), .ref (mm 11), .int 0, .int 0, .ref (mm 12), .ref (mm 13), .int 0, .ref (mm 14), .ref (mm 15), .ref (mm 16)])), ((mm 1), .inl (k 0, 1227, .inl f)), ((mm 6), .inl (k 0, 2454, .inl kp))])) (va_Qv (fun uu : Nat → Int32 => uu 0 = 0) (qu D (va_A [((mm 0), .inr (7, [.int 0, .ref (mm 1), .ref (mm 2), .ref (mm 3), .ref (mm 4), .ref (mm 5), .int 0, .int 0, .int 0, .int 0, .int 0, .int 0, .int 0, .int 0, .int 0, .int (-1), .int 0, .ref (mm 6), .int 0, .ref (mm 7), .ref (mm 8), .ref (mm 9), .int fw, .ref (mm 10), .ref (mm 11), .int 0, .int 0, .ref (mm 12), .ref (mm 13), .int 0, .ref (mm 14), .ref (mm 15), .ref (mm 16)])), ((mm 1), .inl (k 0, 1227, .inl f)), ((mm 6), .inl (k 0, 2454, .inl kp))] sz) (fun uu : Nat → Int32 => [((mm 0), .inr (7, [.int 0, .ref (mm 1), .ref (mm 2), .ref (mm 3), .ref (mm 4), .ref (mm 5), .int 0, .int 0, .int 0, .int 0, .int 0, .int 0, .int 0, .int 0, .int 0, .int (-1), .int 0, .ref (mm 6), .int 0, .ref (mm 7), .ref (mm 8), .ref (mm 9), .int fw, .ref (mm 10), .ref (mm 11), .int 0, .int 0, .ref (mm 12), .ref (mm 13), .int 0, .ref (mm 14), .ref (mm 15), .ref (mm 16)])), ((mm 1), .inl (k 0, 1227, .inl uu)), ((mm 6), .inl (k 0, 2454, .inl kp))])) (va_A [((mm 0), .inr (7, [.int 0, .ref (mm 1), .ref (mm 2), .ref (mm 3), .ref (mm 4), .ref (mm 5), .int 0, .int 0, .int 0, .int 0, .int 0, .int 0, .int 0, .int 0, .int 0, .int (-1), .int 0, .ref (mm 6), .int 0, .ref (mm 7), .ref (mm 8), .ref (mm 9), .int fw, .ref (mm 10), .ref (mm 11), .int 0, .int 0, .ref (mm 12), .ref (mm 13), .int 0, .ref (mm 14), .ref (mm 15), .ref (mm 16)])), ((mm 1), .inl (k 0, 1227, .inl f)), ((mm 6), .inl (k 0, 2454, .inl kp))] sz)) 0 0 (va_A [((mm 0), .inr (7, [.int 0, .ref (mm 1), .ref (mm 2), .ref (mm 3), .ref (mm 4), .ref (mm 5), .int 0, .int 0, .int 0, .int 0, .int 0, .int 0, .int 0, .int 0, .int 0, .int (-1), .int 0, .ref (mm 6), .int 0, .ref (mm 7), .ref (mm 8), .ref (mm 9), .int fw, .ref (mm 10), .ref (mm 11), .int 0, .int 0, .ref (mm 12), .ref (mm 13), .int 0, .ref (mm 14), .ref (mm 15), .ref (mm 16)])), ((mm 1), .inl (k 0, 1227, .inl f)), ((mm 6), .inl (k 0, 2454, .inl kp))] sz) := by
  refine Met.ofW (cc := cX8_isAgain) (maxL := 3) (ret := none) (by decide) rfl ?_
  intro p e s m args below meth c s₁ B hml hv
  obtain ⟨rfl, hsz, hP, hK, hD0⟩ := hv
  have hx := B.exec
  have hb := B.bytes
  have hr := B.returns
  have hts : ∀ w ∈ wsL_law, w.before _ s = true := fun w h => atoms_spec (ws := Cond.code yX8_isAgain cX8_isAgain 3 none :: wsL_law) B.pre w (List.mem_cons_of_mem _ h)
  have hown : s.vm.findClass RX8 = some m.cls := findClass_of_methodNamed B.named
  have hlocks := B.notSynchronized
  subst hsz
  have hD := hD0.self (sz := s.heap.size)
  generalize hAe : va_A [((mm 0), .inr (7, [.int 0, .ref (mm 1), .ref (mm 2), .ref (mm 3), .ref (mm 4), .ref (mm 5), .int 0, .int 0, .int 0, .int 0, .int 0, .int 0, .int 0, .int 0, .int 0, .int (-1), .int 0, .ref (mm 6), .int 0, .ref (mm 7), .ref (mm 8), .ref (mm 9), .int fw, .ref (mm 10), .ref (mm 11), .int 0, .int 0, .ref (mm 12), .ref (mm 13), .int 0, .ref (mm 14), .ref (mm 15), .ref (mm 16)])), ((mm 1), .inl (k 0, 1227, .inl f)), ((mm 6), .inl (k 0, 2454, .inl kp))] s.heap.size = A at hD ⊢
  have hA : ∀ q : Nat, s.heap.size ≤ q → A q := fun q h => by rw [← hAe]; exact Or.inr h
  have hS : va_S A s.heap s.heap [] := va_S.rf
  have hP : va_P D vwCl [((mm 0), .inr (7, [.int 0, .ref (mm 1), .ref (mm 2), .ref (mm 3), .ref (mm 4), .ref (mm 5), .int 0, .int 0, .int 0, .int 0, .int 0, .int 0, .int 0, .int 0, .int 0, .int (-1), .int 0, .ref (mm 6), .int 0, .ref (mm 7), .ref (mm 8), .ref (mm 9), .int fw, .ref (mm 10), .ref (mm 11), .int 0, .int 0, .ref (mm 12), .ref (mm 13), .int 0, .ref (mm 14), .ref (mm 15), .ref (mm 16)])), ((mm 1), .inl (k 0, 1227, .inl f)), ((mm 6), .inl (k 0, 2454, .inl kp))] s.heap := hP
  have hl := lv_entry ([.ref (mm 0), .int 2]) (n := 3) (Nat.le_of_ble_eq_true rfl)
  rw [lg_entry_eq]
  generalize (lg_sl ([.ref (mm 0), .int 2]) ++ List.replicate (3 - (lg_sl ([.ref (mm 0), .int 2])).length) Slot.unset).toArray = ls at hl ⊢
  have hl : lv_has ls 3 [(0, .ref (mm 0)), (1, .int 2)] := hl
  refine lv_iconst (v := 0) hx hb dX8_isAgain_0 (by decide) ?_
  refine lv_istore_n (lv' := [(2, .int 0), (0, .ref (mm 0)), (1, .int 2)]) hx hb dX8_isAgain_1 rfl hl (by decide) rfl (fun ls hl => ?_)
  refine W_loop (σ := Int32 × (Nat → Int32)) (fun xx H locs ls => (0 ≤ xx.1.toInt ∧ xx.1.toInt ≤ 409) ∧ (xx.2 0 = 0) ∧ va_P D vwCl [((mm 0), .inr (7, [.int 0, .ref (mm 1), .ref (mm 2), .ref (mm 3), .ref (mm 4), .ref (mm 5), .int 0, .int 0, .int 0, .int 0, .int 0, .int 0, .int 0, .int 0, .int 0, .int (-1), .int 0, .ref (mm 6), .int 0, .ref (mm 7), .ref (mm 8), .ref (mm 9), .int fw, .ref (mm 10), .ref (mm 11), .int 0, .int 0, .ref (mm 12), .ref (mm 13), .int 0, .ref (mm 14), .ref (mm 15), .ref (mm 16)])), ((mm 1), .inl (k 0, 1227, .inl xx.2)), ((mm 6), .inl (k 0, 2454, .inl kp))] H ∧ va_D A [((mm 0), .inr (7, [.int 0, .ref (mm 1), .ref (mm 2), .ref (mm 3), .ref (mm 4), .ref (mm 5), .int 0, .int 0, .int 0, .int 0, .int 0, .int 0, .int 0, .int 0, .int 0, .int (-1), .int 0, .ref (mm 6), .int 0, .ref (mm 7), .ref (mm 8), .ref (mm 9), .int fw, .ref (mm 10), .ref (mm 11), .int 0, .int 0, .ref (mm 12), .ref (mm 13), .int 0, .ref (mm 14), .ref (mm 15), .ref (mm 16)])), ((mm 1), .inl (k 0, 1227, .inl xx.2)), ((mm 6), .inl (k 0, 2454, .inl kp))] ∧ va_S A s.heap H locs ∧ lv_has ls 3 [(2, .int xx.1), (0, .ref (mm 0)), (1, .int 2)]) (fun xx => (409 - xx.1.toInt).toNat) ?_ (0, f) _ _ ls ⟨(show 0 ≤ (0 : Int32).toInt ∧ (0 : Int32).toInt ≤ 409 from ⟨by decide, by decide⟩), hf, hP.sub [0, 1, 2] rfl, hD.sub [0, 1, 2] (by decide) rfl, hS, lv_sub hl [0, 1, 2] rfl⟩
  intro xx H locs ls hI ih
  obtain ⟨i_1, f_2⟩ := xx
  obtain ⟨h_3, h_4, hP, hD, hS, hl⟩ := hI
  have h_3 : 0 ≤ i_1.toInt ∧ i_1.toInt ≤ 409 := h_3
  have h_4 : f_2 0 = 0 := h_4
  obtain ⟨h_3a, h_3b⟩ := h_3
  have hP : va_P D vwCl [((mm 0), .inr (7, [.int 0, .ref (mm 1), .ref (mm 2), .ref (mm 3), .ref (mm 4), .ref (mm 5), .int 0, .int 0, .int 0, .int 0, .int 0, .int 0, .int 0, .int 0, .int 0, .int (-1), .int 0, .ref (mm 6), .int 0, .ref (mm 7), .ref (mm 8), .ref (mm 9), .int fw, .ref (mm 10), .ref (mm 11), .int 0, .int 0, .ref (mm 12), .ref (mm 13), .int 0, .ref (mm 14), .ref (mm 15), .ref (mm 16)])), ((mm 1), .inl (k 0, 1227, .inl f_2)), ((mm 6), .inl (k 0, 2454, .inl kp))] H := hP
  have hD : va_D A [((mm 0), .inr (7, [.int 0, .ref (mm 1), .ref (mm 2), .ref (mm 3), .ref (mm 4), .ref (mm 5), .int 0, .int 0, .int 0, .int 0, .int 0, .int 0, .int 0, .int 0, .int 0, .int (-1), .int 0, .ref (mm 6), .int 0, .ref (mm 7), .ref (mm 8), .ref (mm 9), .int fw, .ref (mm 10), .ref (mm 11), .int 0, .int 0, .ref (mm 12), .ref (mm 13), .int 0, .ref (mm 14), .ref (mm 15), .ref (mm 16)])), ((mm 1), .inl (k 0, 1227, .inl f_2)), ((mm 6), .inl (k 0, 2454, .inl kp))] := hD
  have hl : lv_has ls 3 [(2, .int i_1), (0, .ref (mm 0)), (1, .int 2)] := hl
  refine lv_iload_n hx hb dX8_isAgain_2 rfl (lv_at hl 0 rfl) ?_
  refine lv_sipush (v := 409) hx hb dX8_isAgain_3 (by decide) ?_
  refine lv_icmp_ge (tgt := 33) hx hb dX8_isAgain_6 (by decide) (fun c_5 => ?_) (fun c_5 => ?_)
  · have c_5 : 409 ≤ i_1.toInt := ti_le c_5
    have qc_5 : i_1 = 409 := ti_of (show i_1.toInt = 409 from by omega)
    have hP9 := hP.sub (ws' := [((mm 0), .inr (7, [.int 0, .ref (mm 1), .ref (mm 2), .ref (mm 3), .ref (mm 4), .ref (mm 5), .int 0, .int 0, .int 0, .int 0, .int 0, .int 0, .int 0, .int 0, .int 0, .int (-1), .int 0, .ref (mm 6), .int 0, .ref (mm 7), .ref (mm 8), .ref (mm 9), .int fw, .ref (mm 10), .ref (mm 11), .int 0, .int 0, .ref (mm 12), .ref (mm 13), .int 0, .ref (mm 14), .ref (mm 15), .ref (mm 16)])), ((mm 1), .inl (k 0, 1227, .inl f_2)), ((mm 6), .inl (k 0, 2454, .inl kp))]) [0, 1, 2] rfl
    have hD9 := hD.sub (ws' := [((mm 0), .inr (7, [.int 0, .ref (mm 1), .ref (mm 2), .ref (mm 3), .ref (mm 4), .ref (mm 5), .int 0, .int 0, .int 0, .int 0, .int 0, .int 0, .int 0, .int 0, .int 0, .int (-1), .int 0, .ref (mm 6), .int 0, .ref (mm 7), .ref (mm 8), .ref (mm 9), .int fw, .ref (mm 10), .ref (mm 11), .int 0, .int 0, .ref (mm 12), .ref (mm 13), .int 0, .ref (mm 14), .ref (mm 15), .ref (mm 16)])), ((mm 1), .inl (k 0, 1227, .inl f_2)), ((mm 6), .inl (k 0, 2454, .inl kp))]) [0, 1, 2] (by decide) rfl
    exact W.vret hx hb hr (fun t ht hW => ⟨⟨(f_2), rfl, h_4, by rw [ht]; exact hP9, hD9⟩, hS.F ht⟩) hS.2.2 dX8_isAgain_33
  · have c_5 : i_1.toInt < 409 := ti_nle c_5
    refine lv_aload_n hx hb dX8_isAgain_9 rfl (lv_at hl 1 rfl) ?_
    refine va_get (D := D) (ci := 7) (v := .ref (mm 1)) (C := RX8) (T := TX8) (N := 33) hx hb hts inlX8 hown hK hP 0 rfl rfl 1 (by decide) (hts _ mw_91) (fun _ h9 => h9) rfl dX8_isAgain_10 ?_
    refine lv_iload_n hx hb dX8_isAgain_13 rfl (lv_at hl 0 rfl) ?_
    refine lv_aload_n hx hb dX8_isAgain_14 rfl (lv_at hl 1 rfl) ?_
    refine va_get (D := D) (ci := 7) (v := .ref (mm 6)) (C := RX8) (T := TX8) (N := 33) hx hb hts inlX8 hown hK hP 0 rfl rfl 17 (by decide) (hts _ mw_97) (fun _ h9 => h9) rfl dX8_isAgain_15 ?_
    refine lv_sipush (v := 409) hx hb dX8_isAgain_18 (by decide) ?_
    refine lv_iload_n hx hb dX8_isAgain_21 rfl (lv_at hl 2 rfl) ?_
    refine lv_imul hx hb dX8_isAgain_22 ?_
    refine lv_ni (v := 818) (by decide) ?_
    refine lv_iload_n hx hb dX8_isAgain_23 rfl (lv_at hl 0 rfl) ?_
    refine lv_iadd hx hb dX8_isAgain_24 ?_
    refine lv_topi (fun z_6 ez_6 => ?_)
    have tz_6 : z_6.toInt = 818 + i_1.toInt := by rw [ez_6]; exact ti_addcl (by decide) (by omega) (by omega)
    refine va_iald hx hb hK hP 2 0 rfl rfl (vp_in_o (by omega) (by omega)) dX8_isAgain_25 ?_
    refine lv_topi (fun z_7 ez_7 => ?_)
    refine va_iast hx hb hK hP hD hS 1 0 rfl rfl (vp_in_o (by omega) (by omega)) dX8_isAgain_26 (fun H locs hP hD hS => ?_)
    have hP : va_P D vwCl [((mm 0), .inr (7, [.int 0, .ref (mm 1), .ref (mm 2), .ref (mm 3), .ref (mm 4), .ref (mm 5), .int 0, .int 0, .int 0, .int 0, .int 0, .int 0, .int 0, .int 0, .int 0, .int (-1), .int 0, .ref (mm 6), .int 0, .ref (mm 7), .ref (mm 8), .ref (mm 9), .int fw, .ref (mm 10), .ref (mm 11), .int 0, .int 0, .ref (mm 12), .ref (mm 13), .int 0, .ref (mm 14), .ref (mm 15), .ref (mm 16)])), ((mm 1), .inl (k 0, 1227, .inl (upd f_2 i_1.toNatClampNeg z_7))), ((mm 6), .inl (k 0, 2454, .inl kp))] H := hP
    have hD : va_D A [((mm 0), .inr (7, [.int 0, .ref (mm 1), .ref (mm 2), .ref (mm 3), .ref (mm 4), .ref (mm 5), .int 0, .int 0, .int 0, .int 0, .int 0, .int 0, .int 0, .int 0, .int 0, .int (-1), .int 0, .ref (mm 6), .int 0, .ref (mm 7), .ref (mm 8), .ref (mm 9), .int fw, .ref (mm 10), .ref (mm 11), .int 0, .int 0, .ref (mm 12), .ref (mm 13), .int 0, .ref (mm 14), .ref (mm 15), .ref (mm 16)])), ((mm 1), .inl (k 0, 1227, .inl (upd f_2 i_1.toNatClampNeg z_7))), ((mm 6), .inl (k 0, 2454, .inl kp))] := hD
    generalize ef_8 : (upd f_2 i_1.toNatClampNeg z_7) = f_8 at hP hD
    have hf_8_0 : f_8 0 = 0 := by rw [← ef_8]; exact upd_at h_4 (fun h => by rw [ez_7, ti_cl]; exact KZ_at hk 2 (by omega)) (by omega)
    obtain ⟨z_9, ez_9⟩ : ∃ y : Int32, y = i_1 + 1 := ⟨_, rfl⟩
    have tz_9 : z_9.toInt = i_1.toInt + 1 := by rw [ez_9]; exact ti_addc (by decide) (by omega) (by omega)
    refine lv_iinc (v := z_9) (lv' := [(2, .int z_9), (0, .ref (mm 0)), (1, .int 2)]) hx hb dX8_isAgain_27 hl (k := 0) rfl (ez_9.symm) (by decide) rfl (fun ls hl => ?_)
    refine lv_goto (tgt := 2) hx hb dX8_isAgain_30 (by decide) ?_
    exact ih (z_9, f_8) _ _ ls (by show (409 - z_9.toInt).toNat < (409 - i_1.toInt).toNat; omega) ⟨(show 0 ≤ z_9.toInt ∧ z_9.toInt ≤ 409 from ⟨by omega, by omega⟩), hf_8_0, hP.sub [0, 1, 2] rfl, hD.sub [0, 1, 2] (by decide) rfl, hS, lv_sub hl [0, 1, 2] rfl⟩
set_option maxHeartbeats 4000000 in
set_option maxRecDepth 100000 in
theorem c_M_keeps3 (l : Launch) (D : va_G) (k : Nat → ClassId) (mm : Nat → Nat) (fw : Int32) (f : Nat → Int32) (kp : Nat → Int32) (sz : Nat) (hf : f 0 = 0) (hk : KZ kp) : Met l yX8_keeps (Cond.code yX8_keeps cX8_keeps 3 none :: wsL_law) ({ frames := 0, cells := 0, slots := 0, locals := 0 } : Room) (va_Pc [.ref (mm 0), .int 3] (pu D k sz [((mm 0), .inr (7, [.int 0, .ref (mm 1), .ref (mm 2), .ref (mm 3), .ref (mm 4), .ref (mm 5), .int 0, .int 0, .int 0, .int 0, .int 0, .int 0, .int 0, .int 0, .int 0, .int (-1), .int 0, .ref (mm 6), .int 0, .ref (mm 7), .ref (mm 8), .ref (mm 9), .int fw, .ref (mm 10), .ref (mm 11), .int 0, .int 0, .ref (mm 12), .ref (mm 13), .int 0, .ref (mm 14), .ref (mm 15), .ref (mm 16)])), ((mm 1), .inl (k 0, 1227, .inl f)), ((mm 6), .inl (k 0, 2454, .inl kp))])) (va_Qv (fun uu : Nat → Int32 => KZ uu) (qu D (va_A [((mm 0), .inr (7, [.int 0, .ref (mm 1), .ref (mm 2), .ref (mm 3), .ref (mm 4), .ref (mm 5), .int 0, .int 0, .int 0, .int 0, .int 0, .int 0, .int 0, .int 0, .int 0, .int (-1), .int 0, .ref (mm 6), .int 0, .ref (mm 7), .ref (mm 8), .ref (mm 9), .int fw, .ref (mm 10), .ref (mm 11), .int 0, .int 0, .ref (mm 12), .ref (mm 13), .int 0, .ref (mm 14), .ref (mm 15), .ref (mm 16)])), ((mm 1), .inl (k 0, 1227, .inl f)), ((mm 6), .inl (k 0, 2454, .inl kp))] sz) (fun uu : Nat → Int32 => [((mm 0), .inr (7, [.int 0, .ref (mm 1), .ref (mm 2), .ref (mm 3), .ref (mm 4), .ref (mm 5), .int 0, .int 0, .int 0, .int 0, .int 0, .int 0, .int 0, .int 0, .int 0, .int (-1), .int 0, .ref (mm 6), .int 0, .ref (mm 7), .ref (mm 8), .ref (mm 9), .int fw, .ref (mm 10), .ref (mm 11), .int 0, .int 0, .ref (mm 12), .ref (mm 13), .int 0, .ref (mm 14), .ref (mm 15), .ref (mm 16)])), ((mm 1), .inl (k 0, 1227, .inl f)), ((mm 6), .inl (k 0, 2454, .inl uu))])) (va_A [((mm 0), .inr (7, [.int 0, .ref (mm 1), .ref (mm 2), .ref (mm 3), .ref (mm 4), .ref (mm 5), .int 0, .int 0, .int 0, .int 0, .int 0, .int 0, .int 0, .int 0, .int 0, .int (-1), .int 0, .ref (mm 6), .int 0, .ref (mm 7), .ref (mm 8), .ref (mm 9), .int fw, .ref (mm 10), .ref (mm 11), .int 0, .int 0, .ref (mm 12), .ref (mm 13), .int 0, .ref (mm 14), .ref (mm 15), .ref (mm 16)])), ((mm 1), .inl (k 0, 1227, .inl f)), ((mm 6), .inl (k 0, 2454, .inl kp))] sz)) 0 0 (va_A [((mm 0), .inr (7, [.int 0, .ref (mm 1), .ref (mm 2), .ref (mm 3), .ref (mm 4), .ref (mm 5), .int 0, .int 0, .int 0, .int 0, .int 0, .int 0, .int 0, .int 0, .int 0, .int (-1), .int 0, .ref (mm 6), .int 0, .ref (mm 7), .ref (mm 8), .ref (mm 9), .int fw, .ref (mm 10), .ref (mm 11), .int 0, .int 0, .ref (mm 12), .ref (mm 13), .int 0, .ref (mm 14), .ref (mm 15), .ref (mm 16)])), ((mm 1), .inl (k 0, 1227, .inl f)), ((mm 6), .inl (k 0, 2454, .inl kp))] sz) := by
  refine Met.ofW (cc := cX8_keeps) (maxL := 3) (ret := none) (by decide) rfl ?_
  intro p e s m args below meth c s₁ B hml hv
  obtain ⟨rfl, hsz, hP, hK, hD0⟩ := hv
  have hx := B.exec
  have hb := B.bytes
  have hr := B.returns
  have hts : ∀ w ∈ wsL_law, w.before _ s = true := fun w h => atoms_spec (ws := Cond.code yX8_keeps cX8_keeps 3 none :: wsL_law) B.pre w (List.mem_cons_of_mem _ h)
  have hown : s.vm.findClass RX8 = some m.cls := findClass_of_methodNamed B.named
  have hlocks := B.notSynchronized
  subst hsz
  have hD := hD0.self (sz := s.heap.size)
  generalize hAe : va_A [((mm 0), .inr (7, [.int 0, .ref (mm 1), .ref (mm 2), .ref (mm 3), .ref (mm 4), .ref (mm 5), .int 0, .int 0, .int 0, .int 0, .int 0, .int 0, .int 0, .int 0, .int 0, .int (-1), .int 0, .ref (mm 6), .int 0, .ref (mm 7), .ref (mm 8), .ref (mm 9), .int fw, .ref (mm 10), .ref (mm 11), .int 0, .int 0, .ref (mm 12), .ref (mm 13), .int 0, .ref (mm 14), .ref (mm 15), .ref (mm 16)])), ((mm 1), .inl (k 0, 1227, .inl f)), ((mm 6), .inl (k 0, 2454, .inl kp))] s.heap.size = A at hD ⊢
  have hA : ∀ q : Nat, s.heap.size ≤ q → A q := fun q h => by rw [← hAe]; exact Or.inr h
  have hS : va_S A s.heap s.heap [] := va_S.rf
  have hP : va_P D vwCl [((mm 0), .inr (7, [.int 0, .ref (mm 1), .ref (mm 2), .ref (mm 3), .ref (mm 4), .ref (mm 5), .int 0, .int 0, .int 0, .int 0, .int 0, .int 0, .int 0, .int 0, .int 0, .int (-1), .int 0, .ref (mm 6), .int 0, .ref (mm 7), .ref (mm 8), .ref (mm 9), .int fw, .ref (mm 10), .ref (mm 11), .int 0, .int 0, .ref (mm 12), .ref (mm 13), .int 0, .ref (mm 14), .ref (mm 15), .ref (mm 16)])), ((mm 1), .inl (k 0, 1227, .inl f)), ((mm 6), .inl (k 0, 2454, .inl kp))] s.heap := hP
  have hl := lv_entry ([.ref (mm 0), .int 3]) (n := 3) (Nat.le_of_ble_eq_true rfl)
  rw [lg_entry_eq]
  generalize (lg_sl ([.ref (mm 0), .int 3]) ++ List.replicate (3 - (lg_sl ([.ref (mm 0), .int 3])).length) Slot.unset).toArray = ls at hl ⊢
  have hl : lv_has ls 3 [(0, .ref (mm 0)), (1, .int 3)] := hl
  refine lv_iconst (v := 0) hx hb dX8_keeps_0 (by decide) ?_
  refine lv_istore_n (lv' := [(2, .int 0), (0, .ref (mm 0)), (1, .int 3)]) hx hb dX8_keeps_1 rfl hl (by decide) rfl (fun ls hl => ?_)
  refine W_loop (σ := Int32 × (Nat → Int32)) (fun xx H locs ls => (0 ≤ xx.1.toInt ∧ xx.1.toInt ≤ 409) ∧ (KZ xx.2) ∧ va_P D vwCl [((mm 0), .inr (7, [.int 0, .ref (mm 1), .ref (mm 2), .ref (mm 3), .ref (mm 4), .ref (mm 5), .int 0, .int 0, .int 0, .int 0, .int 0, .int 0, .int 0, .int 0, .int 0, .int (-1), .int 0, .ref (mm 6), .int 0, .ref (mm 7), .ref (mm 8), .ref (mm 9), .int fw, .ref (mm 10), .ref (mm 11), .int 0, .int 0, .ref (mm 12), .ref (mm 13), .int 0, .ref (mm 14), .ref (mm 15), .ref (mm 16)])), ((mm 1), .inl (k 0, 1227, .inl f)), ((mm 6), .inl (k 0, 2454, .inl xx.2))] H ∧ va_D A [((mm 0), .inr (7, [.int 0, .ref (mm 1), .ref (mm 2), .ref (mm 3), .ref (mm 4), .ref (mm 5), .int 0, .int 0, .int 0, .int 0, .int 0, .int 0, .int 0, .int 0, .int 0, .int (-1), .int 0, .ref (mm 6), .int 0, .ref (mm 7), .ref (mm 8), .ref (mm 9), .int fw, .ref (mm 10), .ref (mm 11), .int 0, .int 0, .ref (mm 12), .ref (mm 13), .int 0, .ref (mm 14), .ref (mm 15), .ref (mm 16)])), ((mm 1), .inl (k 0, 1227, .inl f)), ((mm 6), .inl (k 0, 2454, .inl xx.2))] ∧ va_S A s.heap H locs ∧ lv_has ls 3 [(2, .int xx.1), (0, .ref (mm 0)), (1, .int 3)]) (fun xx => (409 - xx.1.toInt).toNat) ?_ (0, kp) _ _ ls ⟨(show 0 ≤ (0 : Int32).toInt ∧ (0 : Int32).toInt ≤ 409 from ⟨by decide, by decide⟩), hk, hP.sub [0, 1, 2] rfl, hD.sub [0, 1, 2] (by decide) rfl, hS, lv_sub hl [0, 1, 2] rfl⟩
  intro xx H locs ls hI ih
  obtain ⟨i_1, f_2⟩ := xx
  obtain ⟨h_3, h_4, hP, hD, hS, hl⟩ := hI
  have h_3 : 0 ≤ i_1.toInt ∧ i_1.toInt ≤ 409 := h_3
  have h_4 : KZ f_2 := h_4
  obtain ⟨h_3a, h_3b⟩ := h_3
  have hP : va_P D vwCl [((mm 0), .inr (7, [.int 0, .ref (mm 1), .ref (mm 2), .ref (mm 3), .ref (mm 4), .ref (mm 5), .int 0, .int 0, .int 0, .int 0, .int 0, .int 0, .int 0, .int 0, .int 0, .int (-1), .int 0, .ref (mm 6), .int 0, .ref (mm 7), .ref (mm 8), .ref (mm 9), .int fw, .ref (mm 10), .ref (mm 11), .int 0, .int 0, .ref (mm 12), .ref (mm 13), .int 0, .ref (mm 14), .ref (mm 15), .ref (mm 16)])), ((mm 1), .inl (k 0, 1227, .inl f)), ((mm 6), .inl (k 0, 2454, .inl f_2))] H := hP
  have hD : va_D A [((mm 0), .inr (7, [.int 0, .ref (mm 1), .ref (mm 2), .ref (mm 3), .ref (mm 4), .ref (mm 5), .int 0, .int 0, .int 0, .int 0, .int 0, .int 0, .int 0, .int 0, .int 0, .int (-1), .int 0, .ref (mm 6), .int 0, .ref (mm 7), .ref (mm 8), .ref (mm 9), .int fw, .ref (mm 10), .ref (mm 11), .int 0, .int 0, .ref (mm 12), .ref (mm 13), .int 0, .ref (mm 14), .ref (mm 15), .ref (mm 16)])), ((mm 1), .inl (k 0, 1227, .inl f)), ((mm 6), .inl (k 0, 2454, .inl f_2))] := hD
  have hl : lv_has ls 3 [(2, .int i_1), (0, .ref (mm 0)), (1, .int 3)] := hl
  refine lv_iload_n hx hb dX8_keeps_2 rfl (lv_at hl 0 rfl) ?_
  refine lv_sipush (v := 409) hx hb dX8_keeps_3 (by decide) ?_
  refine lv_icmp_ge (tgt := 33) hx hb dX8_keeps_6 (by decide) (fun c_5 => ?_) (fun c_5 => ?_)
  · have c_5 : 409 ≤ i_1.toInt := ti_le c_5
    have qc_5 : i_1 = 409 := ti_of (show i_1.toInt = 409 from by omega)
    have hP9 := hP.sub (ws' := [((mm 0), .inr (7, [.int 0, .ref (mm 1), .ref (mm 2), .ref (mm 3), .ref (mm 4), .ref (mm 5), .int 0, .int 0, .int 0, .int 0, .int 0, .int 0, .int 0, .int 0, .int 0, .int (-1), .int 0, .ref (mm 6), .int 0, .ref (mm 7), .ref (mm 8), .ref (mm 9), .int fw, .ref (mm 10), .ref (mm 11), .int 0, .int 0, .ref (mm 12), .ref (mm 13), .int 0, .ref (mm 14), .ref (mm 15), .ref (mm 16)])), ((mm 1), .inl (k 0, 1227, .inl f)), ((mm 6), .inl (k 0, 2454, .inl f_2))]) [0, 1, 2] rfl
    have hD9 := hD.sub (ws' := [((mm 0), .inr (7, [.int 0, .ref (mm 1), .ref (mm 2), .ref (mm 3), .ref (mm 4), .ref (mm 5), .int 0, .int 0, .int 0, .int 0, .int 0, .int 0, .int 0, .int 0, .int 0, .int (-1), .int 0, .ref (mm 6), .int 0, .ref (mm 7), .ref (mm 8), .ref (mm 9), .int fw, .ref (mm 10), .ref (mm 11), .int 0, .int 0, .ref (mm 12), .ref (mm 13), .int 0, .ref (mm 14), .ref (mm 15), .ref (mm 16)])), ((mm 1), .inl (k 0, 1227, .inl f)), ((mm 6), .inl (k 0, 2454, .inl f_2))]) [0, 1, 2] (by decide) rfl
    exact W.vret hx hb hr (fun t ht hW => ⟨⟨(f_2), rfl, h_4, by rw [ht]; exact hP9, hD9⟩, hS.F ht⟩) hS.2.2 dX8_keeps_33
  · have c_5 : i_1.toInt < 409 := ti_nle c_5
    refine lv_aload_n hx hb dX8_keeps_9 rfl (lv_at hl 1 rfl) ?_
    refine va_get (D := D) (ci := 7) (v := .ref (mm 6)) (C := RX8) (T := TX8) (N := 33) hx hb hts inlX8 hown hK hP 0 rfl rfl 17 (by decide) (hts _ mw_97) (fun _ h9 => h9) rfl dX8_keeps_10 ?_
    refine lv_sipush (v := 409) hx hb dX8_keeps_13 (by decide) ?_
    refine lv_iload_n hx hb dX8_keeps_16 rfl (lv_at hl 2 rfl) ?_
    refine lv_imul hx hb dX8_keeps_17 ?_
    refine lv_ni (v := 1227) (by decide) ?_
    refine lv_iload_n hx hb dX8_keeps_18 rfl (lv_at hl 0 rfl) ?_
    refine lv_iadd hx hb dX8_keeps_19 ?_
    refine lv_topi (fun z_6 ez_6 => ?_)
    have tz_6 : z_6.toInt = 1227 + i_1.toInt := by rw [ez_6]; exact ti_addcl (by decide) (by omega) (by omega)
    refine lv_aload_n hx hb dX8_keeps_20 rfl (lv_at hl 1 rfl) ?_
    refine va_get (D := D) (ci := 7) (v := .ref (mm 1)) (C := RX8) (T := TX8) (N := 33) hx hb hts inlX8 hown hK hP 0 rfl rfl 1 (by decide) (hts _ mw_91) (fun _ h9 => h9) rfl dX8_keeps_21 ?_
    refine lv_iload_n hx hb dX8_keeps_24 rfl (lv_at hl 0 rfl) ?_
    refine va_iald hx hb hK hP 1 0 rfl rfl (vp_in_o (by omega) (by omega)) dX8_keeps_25 ?_
    refine lv_topi (fun z_7 ez_7 => ?_)
    refine va_iast hx hb hK hP hD hS 2 0 rfl rfl (vp_in_o (by omega) (by omega)) dX8_keeps_26 (fun H locs hP hD hS => ?_)
    have hP : va_P D vwCl [((mm 0), .inr (7, [.int 0, .ref (mm 1), .ref (mm 2), .ref (mm 3), .ref (mm 4), .ref (mm 5), .int 0, .int 0, .int 0, .int 0, .int 0, .int 0, .int 0, .int 0, .int 0, .int (-1), .int 0, .ref (mm 6), .int 0, .ref (mm 7), .ref (mm 8), .ref (mm 9), .int fw, .ref (mm 10), .ref (mm 11), .int 0, .int 0, .ref (mm 12), .ref (mm 13), .int 0, .ref (mm 14), .ref (mm 15), .ref (mm 16)])), ((mm 1), .inl (k 0, 1227, .inl f)), ((mm 6), .inl (k 0, 2454, .inl (upd f_2 z_6.toNatClampNeg z_7)))] H := hP
    have hD : va_D A [((mm 0), .inr (7, [.int 0, .ref (mm 1), .ref (mm 2), .ref (mm 3), .ref (mm 4), .ref (mm 5), .int 0, .int 0, .int 0, .int 0, .int 0, .int 0, .int 0, .int 0, .int 0, .int (-1), .int 0, .ref (mm 6), .int 0, .ref (mm 7), .ref (mm 8), .ref (mm 9), .int fw, .ref (mm 10), .ref (mm 11), .int 0, .int 0, .ref (mm 12), .ref (mm 13), .int 0, .ref (mm 14), .ref (mm 15), .ref (mm 16)])), ((mm 1), .inl (k 0, 1227, .inl f)), ((mm 6), .inl (k 0, 2454, .inl (upd f_2 z_6.toNatClampNeg z_7)))] := hD
    generalize ef_8 : (upd f_2 z_6.toNatClampNeg z_7) = f_8 at hP hD
    have hf_8 : KZ f_8 := by rw [← ef_8]; exact KZ_upd h_4 (fun lv h => by rw [ez_7, ti_cl, show i_1.toInt.toNat = 0 from by omega]; exact hf) (by omega)
    obtain ⟨z_9, ez_9⟩ : ∃ y : Int32, y = i_1 + 1 := ⟨_, rfl⟩
    have tz_9 : z_9.toInt = i_1.toInt + 1 := by rw [ez_9]; exact ti_addc (by decide) (by omega) (by omega)
    refine lv_iinc (v := z_9) (lv' := [(2, .int z_9), (0, .ref (mm 0)), (1, .int 3)]) hx hb dX8_keeps_27 hl (k := 0) rfl (ez_9.symm) (by decide) rfl (fun ls hl => ?_)
    refine lv_goto (tgt := 2) hx hb dX8_keeps_30 (by decide) ?_
    exact ih (z_9, f_8) _ _ ls (by show (409 - z_9.toInt).toNat < (409 - i_1.toInt).toNat; omega) ⟨(show 0 ≤ z_9.toInt ∧ z_9.toInt ≤ 409 from ⟨by omega, by omega⟩), hf_8, hP.sub [0, 1, 2] rfl, hD.sub [0, 1, 2] (by decide) rfl, hS, lv_sub hl [0, 1, 2] rfl⟩
set_option maxHeartbeats 4000000 in
set_option maxRecDepth 100000 in
theorem c_M_isAgain3 (l : Launch) (D : va_G) (k : Nat → ClassId) (mm : Nat → Nat) (fw : Int32) (f : Nat → Int32) (kp : Nat → Int32) (sz : Nat) (hf : f 0 = 0) (hk : KZ kp) : Met l yX8_isAgain (Cond.code yX8_isAgain cX8_isAgain 3 none :: wsL_law) ({ frames := 0, cells := 0, slots := 0, locals := 0 } : Room) (va_Pc [.ref (mm 0), .int 3] (pu D k sz [((mm 0), .inr (7, [.int 0, .ref (mm 1), .ref (mm 2), .ref (mm 3), .ref (mm 4), .ref (mm 5), .int 0, .int 0, .int 0, .int 0, .int 0, .int 0, .int 0, .int 0, .int 0, .int (-1), .int 0, .ref (mm 6), .int 0, .ref (mm 7), .ref (mm 8), .ref (mm 9), .int fw, .ref (mm 10), .ref (mm 11), .int 0, .int 0, .ref (mm 12), .ref (mm 13), .int 0, .ref (mm 14), .ref (mm 15), .ref (mm 16)])), ((mm 1), .inl (k 0, 1227, .inl f)), ((mm 6), .inl (k 0, 2454, .inl kp))])) (va_Qv (fun uu : Nat → Int32 => uu 0 = 0) (qu D (va_A [((mm 0), .inr (7, [.int 0, .ref (mm 1), .ref (mm 2), .ref (mm 3), .ref (mm 4), .ref (mm 5), .int 0, .int 0, .int 0, .int 0, .int 0, .int 0, .int 0, .int 0, .int 0, .int (-1), .int 0, .ref (mm 6), .int 0, .ref (mm 7), .ref (mm 8), .ref (mm 9), .int fw, .ref (mm 10), .ref (mm 11), .int 0, .int 0, .ref (mm 12), .ref (mm 13), .int 0, .ref (mm 14), .ref (mm 15), .ref (mm 16)])), ((mm 1), .inl (k 0, 1227, .inl f)), ((mm 6), .inl (k 0, 2454, .inl kp))] sz) (fun uu : Nat → Int32 => [((mm 0), .inr (7, [.int 0, .ref (mm 1), .ref (mm 2), .ref (mm 3), .ref (mm 4), .ref (mm 5), .int 0, .int 0, .int 0, .int 0, .int 0, .int 0, .int 0, .int 0, .int 0, .int (-1), .int 0, .ref (mm 6), .int 0, .ref (mm 7), .ref (mm 8), .ref (mm 9), .int fw, .ref (mm 10), .ref (mm 11), .int 0, .int 0, .ref (mm 12), .ref (mm 13), .int 0, .ref (mm 14), .ref (mm 15), .ref (mm 16)])), ((mm 1), .inl (k 0, 1227, .inl uu)), ((mm 6), .inl (k 0, 2454, .inl kp))])) (va_A [((mm 0), .inr (7, [.int 0, .ref (mm 1), .ref (mm 2), .ref (mm 3), .ref (mm 4), .ref (mm 5), .int 0, .int 0, .int 0, .int 0, .int 0, .int 0, .int 0, .int 0, .int 0, .int (-1), .int 0, .ref (mm 6), .int 0, .ref (mm 7), .ref (mm 8), .ref (mm 9), .int fw, .ref (mm 10), .ref (mm 11), .int 0, .int 0, .ref (mm 12), .ref (mm 13), .int 0, .ref (mm 14), .ref (mm 15), .ref (mm 16)])), ((mm 1), .inl (k 0, 1227, .inl f)), ((mm 6), .inl (k 0, 2454, .inl kp))] sz)) 0 0 (va_A [((mm 0), .inr (7, [.int 0, .ref (mm 1), .ref (mm 2), .ref (mm 3), .ref (mm 4), .ref (mm 5), .int 0, .int 0, .int 0, .int 0, .int 0, .int 0, .int 0, .int 0, .int 0, .int (-1), .int 0, .ref (mm 6), .int 0, .ref (mm 7), .ref (mm 8), .ref (mm 9), .int fw, .ref (mm 10), .ref (mm 11), .int 0, .int 0, .ref (mm 12), .ref (mm 13), .int 0, .ref (mm 14), .ref (mm 15), .ref (mm 16)])), ((mm 1), .inl (k 0, 1227, .inl f)), ((mm 6), .inl (k 0, 2454, .inl kp))] sz) := by
  refine Met.ofW (cc := cX8_isAgain) (maxL := 3) (ret := none) (by decide) rfl ?_
  intro p e s m args below meth c s₁ B hml hv
  obtain ⟨rfl, hsz, hP, hK, hD0⟩ := hv
  have hx := B.exec
  have hb := B.bytes
  have hr := B.returns
  have hts : ∀ w ∈ wsL_law, w.before _ s = true := fun w h => atoms_spec (ws := Cond.code yX8_isAgain cX8_isAgain 3 none :: wsL_law) B.pre w (List.mem_cons_of_mem _ h)
  have hown : s.vm.findClass RX8 = some m.cls := findClass_of_methodNamed B.named
  have hlocks := B.notSynchronized
  subst hsz
  have hD := hD0.self (sz := s.heap.size)
  generalize hAe : va_A [((mm 0), .inr (7, [.int 0, .ref (mm 1), .ref (mm 2), .ref (mm 3), .ref (mm 4), .ref (mm 5), .int 0, .int 0, .int 0, .int 0, .int 0, .int 0, .int 0, .int 0, .int 0, .int (-1), .int 0, .ref (mm 6), .int 0, .ref (mm 7), .ref (mm 8), .ref (mm 9), .int fw, .ref (mm 10), .ref (mm 11), .int 0, .int 0, .ref (mm 12), .ref (mm 13), .int 0, .ref (mm 14), .ref (mm 15), .ref (mm 16)])), ((mm 1), .inl (k 0, 1227, .inl f)), ((mm 6), .inl (k 0, 2454, .inl kp))] s.heap.size = A at hD ⊢
  have hA : ∀ q : Nat, s.heap.size ≤ q → A q := fun q h => by rw [← hAe]; exact Or.inr h
  have hS : va_S A s.heap s.heap [] := va_S.rf
  have hP : va_P D vwCl [((mm 0), .inr (7, [.int 0, .ref (mm 1), .ref (mm 2), .ref (mm 3), .ref (mm 4), .ref (mm 5), .int 0, .int 0, .int 0, .int 0, .int 0, .int 0, .int 0, .int 0, .int 0, .int (-1), .int 0, .ref (mm 6), .int 0, .ref (mm 7), .ref (mm 8), .ref (mm 9), .int fw, .ref (mm 10), .ref (mm 11), .int 0, .int 0, .ref (mm 12), .ref (mm 13), .int 0, .ref (mm 14), .ref (mm 15), .ref (mm 16)])), ((mm 1), .inl (k 0, 1227, .inl f)), ((mm 6), .inl (k 0, 2454, .inl kp))] s.heap := hP
  have hl := lv_entry ([.ref (mm 0), .int 3]) (n := 3) (Nat.le_of_ble_eq_true rfl)
  rw [lg_entry_eq]
  generalize (lg_sl ([.ref (mm 0), .int 3]) ++ List.replicate (3 - (lg_sl ([.ref (mm 0), .int 3])).length) Slot.unset).toArray = ls at hl ⊢
  have hl : lv_has ls 3 [(0, .ref (mm 0)), (1, .int 3)] := hl
  refine lv_iconst (v := 0) hx hb dX8_isAgain_0 (by decide) ?_
  refine lv_istore_n (lv' := [(2, .int 0), (0, .ref (mm 0)), (1, .int 3)]) hx hb dX8_isAgain_1 rfl hl (by decide) rfl (fun ls hl => ?_)
  refine W_loop (σ := Int32 × (Nat → Int32)) (fun xx H locs ls => (0 ≤ xx.1.toInt ∧ xx.1.toInt ≤ 409) ∧ (xx.2 0 = 0) ∧ va_P D vwCl [((mm 0), .inr (7, [.int 0, .ref (mm 1), .ref (mm 2), .ref (mm 3), .ref (mm 4), .ref (mm 5), .int 0, .int 0, .int 0, .int 0, .int 0, .int 0, .int 0, .int 0, .int 0, .int (-1), .int 0, .ref (mm 6), .int 0, .ref (mm 7), .ref (mm 8), .ref (mm 9), .int fw, .ref (mm 10), .ref (mm 11), .int 0, .int 0, .ref (mm 12), .ref (mm 13), .int 0, .ref (mm 14), .ref (mm 15), .ref (mm 16)])), ((mm 1), .inl (k 0, 1227, .inl xx.2)), ((mm 6), .inl (k 0, 2454, .inl kp))] H ∧ va_D A [((mm 0), .inr (7, [.int 0, .ref (mm 1), .ref (mm 2), .ref (mm 3), .ref (mm 4), .ref (mm 5), .int 0, .int 0, .int 0, .int 0, .int 0, .int 0, .int 0, .int 0, .int 0, .int (-1), .int 0, .ref (mm 6), .int 0, .ref (mm 7), .ref (mm 8), .ref (mm 9), .int fw, .ref (mm 10), .ref (mm 11), .int 0, .int 0, .ref (mm 12), .ref (mm 13), .int 0, .ref (mm 14), .ref (mm 15), .ref (mm 16)])), ((mm 1), .inl (k 0, 1227, .inl xx.2)), ((mm 6), .inl (k 0, 2454, .inl kp))] ∧ va_S A s.heap H locs ∧ lv_has ls 3 [(2, .int xx.1), (0, .ref (mm 0)), (1, .int 3)]) (fun xx => (409 - xx.1.toInt).toNat) ?_ (0, f) _ _ ls ⟨(show 0 ≤ (0 : Int32).toInt ∧ (0 : Int32).toInt ≤ 409 from ⟨by decide, by decide⟩), hf, hP.sub [0, 1, 2] rfl, hD.sub [0, 1, 2] (by decide) rfl, hS, lv_sub hl [0, 1, 2] rfl⟩
  intro xx H locs ls hI ih
  obtain ⟨i_1, f_2⟩ := xx
  obtain ⟨h_3, h_4, hP, hD, hS, hl⟩ := hI
  have h_3 : 0 ≤ i_1.toInt ∧ i_1.toInt ≤ 409 := h_3
  have h_4 : f_2 0 = 0 := h_4
  obtain ⟨h_3a, h_3b⟩ := h_3
  have hP : va_P D vwCl [((mm 0), .inr (7, [.int 0, .ref (mm 1), .ref (mm 2), .ref (mm 3), .ref (mm 4), .ref (mm 5), .int 0, .int 0, .int 0, .int 0, .int 0, .int 0, .int 0, .int 0, .int 0, .int (-1), .int 0, .ref (mm 6), .int 0, .ref (mm 7), .ref (mm 8), .ref (mm 9), .int fw, .ref (mm 10), .ref (mm 11), .int 0, .int 0, .ref (mm 12), .ref (mm 13), .int 0, .ref (mm 14), .ref (mm 15), .ref (mm 16)])), ((mm 1), .inl (k 0, 1227, .inl f_2)), ((mm 6), .inl (k 0, 2454, .inl kp))] H := hP
  have hD : va_D A [((mm 0), .inr (7, [.int 0, .ref (mm 1), .ref (mm 2), .ref (mm 3), .ref (mm 4), .ref (mm 5), .int 0, .int 0, .int 0, .int 0, .int 0, .int 0, .int 0, .int 0, .int 0, .int (-1), .int 0, .ref (mm 6), .int 0, .ref (mm 7), .ref (mm 8), .ref (mm 9), .int fw, .ref (mm 10), .ref (mm 11), .int 0, .int 0, .ref (mm 12), .ref (mm 13), .int 0, .ref (mm 14), .ref (mm 15), .ref (mm 16)])), ((mm 1), .inl (k 0, 1227, .inl f_2)), ((mm 6), .inl (k 0, 2454, .inl kp))] := hD
  have hl : lv_has ls 3 [(2, .int i_1), (0, .ref (mm 0)), (1, .int 3)] := hl
  refine lv_iload_n hx hb dX8_isAgain_2 rfl (lv_at hl 0 rfl) ?_
  refine lv_sipush (v := 409) hx hb dX8_isAgain_3 (by decide) ?_
  refine lv_icmp_ge (tgt := 33) hx hb dX8_isAgain_6 (by decide) (fun c_5 => ?_) (fun c_5 => ?_)
  · have c_5 : 409 ≤ i_1.toInt := ti_le c_5
    have qc_5 : i_1 = 409 := ti_of (show i_1.toInt = 409 from by omega)
    have hP9 := hP.sub (ws' := [((mm 0), .inr (7, [.int 0, .ref (mm 1), .ref (mm 2), .ref (mm 3), .ref (mm 4), .ref (mm 5), .int 0, .int 0, .int 0, .int 0, .int 0, .int 0, .int 0, .int 0, .int 0, .int (-1), .int 0, .ref (mm 6), .int 0, .ref (mm 7), .ref (mm 8), .ref (mm 9), .int fw, .ref (mm 10), .ref (mm 11), .int 0, .int 0, .ref (mm 12), .ref (mm 13), .int 0, .ref (mm 14), .ref (mm 15), .ref (mm 16)])), ((mm 1), .inl (k 0, 1227, .inl f_2)), ((mm 6), .inl (k 0, 2454, .inl kp))]) [0, 1, 2] rfl
    have hD9 := hD.sub (ws' := [((mm 0), .inr (7, [.int 0, .ref (mm 1), .ref (mm 2), .ref (mm 3), .ref (mm 4), .ref (mm 5), .int 0, .int 0, .int 0, .int 0, .int 0, .int 0, .int 0, .int 0, .int 0, .int (-1), .int 0, .ref (mm 6), .int 0, .ref (mm 7), .ref (mm 8), .ref (mm 9), .int fw, .ref (mm 10), .ref (mm 11), .int 0, .int 0, .ref (mm 12), .ref (mm 13), .int 0, .ref (mm 14), .ref (mm 15), .ref (mm 16)])), ((mm 1), .inl (k 0, 1227, .inl f_2)), ((mm 6), .inl (k 0, 2454, .inl kp))]) [0, 1, 2] (by decide) rfl
    exact W.vret hx hb hr (fun t ht hW => ⟨⟨(f_2), rfl, h_4, by rw [ht]; exact hP9, hD9⟩, hS.F ht⟩) hS.2.2 dX8_isAgain_33
  · have c_5 : i_1.toInt < 409 := ti_nle c_5
    refine lv_aload_n hx hb dX8_isAgain_9 rfl (lv_at hl 1 rfl) ?_
    refine va_get (D := D) (ci := 7) (v := .ref (mm 1)) (C := RX8) (T := TX8) (N := 33) hx hb hts inlX8 hown hK hP 0 rfl rfl 1 (by decide) (hts _ mw_91) (fun _ h9 => h9) rfl dX8_isAgain_10 ?_
    refine lv_iload_n hx hb dX8_isAgain_13 rfl (lv_at hl 0 rfl) ?_
    refine lv_aload_n hx hb dX8_isAgain_14 rfl (lv_at hl 1 rfl) ?_
    refine va_get (D := D) (ci := 7) (v := .ref (mm 6)) (C := RX8) (T := TX8) (N := 33) hx hb hts inlX8 hown hK hP 0 rfl rfl 17 (by decide) (hts _ mw_97) (fun _ h9 => h9) rfl dX8_isAgain_15 ?_
    refine lv_sipush (v := 409) hx hb dX8_isAgain_18 (by decide) ?_
    refine lv_iload_n hx hb dX8_isAgain_21 rfl (lv_at hl 2 rfl) ?_
    refine lv_imul hx hb dX8_isAgain_22 ?_
    refine lv_ni (v := 1227) (by decide) ?_
    refine lv_iload_n hx hb dX8_isAgain_23 rfl (lv_at hl 0 rfl) ?_
    refine lv_iadd hx hb dX8_isAgain_24 ?_
    refine lv_topi (fun z_6 ez_6 => ?_)
    have tz_6 : z_6.toInt = 1227 + i_1.toInt := by rw [ez_6]; exact ti_addcl (by decide) (by omega) (by omega)
    refine va_iald hx hb hK hP 2 0 rfl rfl (vp_in_o (by omega) (by omega)) dX8_isAgain_25 ?_
    refine lv_topi (fun z_7 ez_7 => ?_)
    refine va_iast hx hb hK hP hD hS 1 0 rfl rfl (vp_in_o (by omega) (by omega)) dX8_isAgain_26 (fun H locs hP hD hS => ?_)
    have hP : va_P D vwCl [((mm 0), .inr (7, [.int 0, .ref (mm 1), .ref (mm 2), .ref (mm 3), .ref (mm 4), .ref (mm 5), .int 0, .int 0, .int 0, .int 0, .int 0, .int 0, .int 0, .int 0, .int 0, .int (-1), .int 0, .ref (mm 6), .int 0, .ref (mm 7), .ref (mm 8), .ref (mm 9), .int fw, .ref (mm 10), .ref (mm 11), .int 0, .int 0, .ref (mm 12), .ref (mm 13), .int 0, .ref (mm 14), .ref (mm 15), .ref (mm 16)])), ((mm 1), .inl (k 0, 1227, .inl (upd f_2 i_1.toNatClampNeg z_7))), ((mm 6), .inl (k 0, 2454, .inl kp))] H := hP
    have hD : va_D A [((mm 0), .inr (7, [.int 0, .ref (mm 1), .ref (mm 2), .ref (mm 3), .ref (mm 4), .ref (mm 5), .int 0, .int 0, .int 0, .int 0, .int 0, .int 0, .int 0, .int 0, .int 0, .int (-1), .int 0, .ref (mm 6), .int 0, .ref (mm 7), .ref (mm 8), .ref (mm 9), .int fw, .ref (mm 10), .ref (mm 11), .int 0, .int 0, .ref (mm 12), .ref (mm 13), .int 0, .ref (mm 14), .ref (mm 15), .ref (mm 16)])), ((mm 1), .inl (k 0, 1227, .inl (upd f_2 i_1.toNatClampNeg z_7))), ((mm 6), .inl (k 0, 2454, .inl kp))] := hD
    generalize ef_8 : (upd f_2 i_1.toNatClampNeg z_7) = f_8 at hP hD
    have hf_8_0 : f_8 0 = 0 := by rw [← ef_8]; exact upd_at h_4 (fun h => by rw [ez_7, ti_cl]; exact KZ_at hk 3 (by omega)) (by omega)
    obtain ⟨z_9, ez_9⟩ : ∃ y : Int32, y = i_1 + 1 := ⟨_, rfl⟩
    have tz_9 : z_9.toInt = i_1.toInt + 1 := by rw [ez_9]; exact ti_addc (by decide) (by omega) (by omega)
    refine lv_iinc (v := z_9) (lv' := [(2, .int z_9), (0, .ref (mm 0)), (1, .int 3)]) hx hb dX8_isAgain_27 hl (k := 0) rfl (ez_9.symm) (by decide) rfl (fun ls hl => ?_)
    refine lv_goto (tgt := 2) hx hb dX8_isAgain_30 (by decide) ?_
    exact ih (z_9, f_8) _ _ ls (by show (409 - z_9.toInt).toNat < (409 - i_1.toInt).toNat; omega) ⟨(show 0 ≤ z_9.toInt ∧ z_9.toInt ≤ 409 from ⟨by omega, by omega⟩), hf_8_0, hP.sub [0, 1, 2] rfl, hD.sub [0, 1, 2] (by decide) rfl, hS, lv_sub hl [0, 1, 2] rfl⟩
set_option maxHeartbeats 4000000 in
set_option maxRecDepth 100000 in
theorem c_M_see0 (l : Launch) (D : va_G) (k : Nat → ClassId) (mm : Nat → Nat) : Met l yX8_see (Cond.code yX8_see cX8_see 2 (some .int) :: wsL_law) ({ frames := 0, cells := 0, slots := 0, locals := 0 } : Room) (va_Pc [.ref (mm 0), .int 0] (pr D k [((mm 0), .inr (7, [.int 0, .ref (mm 1), .ref (mm 2), .ref (mm 3), .ref (mm 4), .ref (mm 5), .int 0, .int 0, .int 0, .int 0, .int 0, .int 0, .int 0, .int 0, .int 0, .int (-1), .int 0, .ref (mm 6), .int 0, .ref (mm 7), .ref (mm 8), .ref (mm 9), .int 0, .ref (mm 10), .ref (mm 11), .int 0, .int 0, .ref (mm 12), .ref (mm 13), .int 0, .ref (mm 14), .ref (mm 15), .ref (mm 16)]))])) (vp_Si (fun rr => rr = (-1))) 0 0 (fun _ => False) := by
  refine Met.ofW (cc := cX8_see) (maxL := 2) (ret := (some .int)) (by decide) rfl ?_
  intro p e s m args below meth c s₁ B hml hv
  obtain ⟨rfl, hP, hK⟩ := hv
  have hx := B.exec
  have hb := B.bytes
  have hr := B.returns
  have hts : ∀ w ∈ wsL_law, w.before _ s = true := fun w h => atoms_spec (ws := Cond.code yX8_see cX8_see 2 (some .int) :: wsL_law) B.pre w (List.mem_cons_of_mem _ h)
  have hown : s.vm.findClass RX8 = some m.cls := findClass_of_methodNamed B.named
  have hlocks := B.notSynchronized
  have hP : va_P D vwCl [((mm 0), .inr (7, [.int 0, .ref (mm 1), .ref (mm 2), .ref (mm 3), .ref (mm 4), .ref (mm 5), .int 0, .int 0, .int 0, .int 0, .int 0, .int 0, .int 0, .int 0, .int 0, .int (-1), .int 0, .ref (mm 6), .int 0, .ref (mm 7), .ref (mm 8), .ref (mm 9), .int 0, .ref (mm 10), .ref (mm 11), .int 0, .int 0, .ref (mm 12), .ref (mm 13), .int 0, .ref (mm 14), .ref (mm 15), .ref (mm 16)]))] s.heap := hP
  have hl := lv_entry ([.ref (mm 0), .int 0]) (n := 2) (Nat.le_of_ble_eq_true rfl)
  rw [lg_entry_eq]
  generalize (lg_sl ([.ref (mm 0), .int 0]) ++ List.replicate (2 - (lg_sl ([.ref (mm 0), .int 0])).length) Slot.unset).toArray = ls at hl ⊢
  have hl : lv_has ls 2 [(0, .ref (mm 0)), (1, .int 0)] := hl
  refine lv_iload_n hx hb dX8_see_0 rfl (lv_at hl 1 rfl) ?_
  refine lv_aload_n hx hb dX8_see_1 rfl (lv_at hl 0 rfl) ?_
  refine va_get (D := D) (ci := 7) (v := .int 0) (C := RX8) (T := TX8) (N := 33) hx hb hts inlX8 hown hK hP 0 rfl rfl 9 (by decide) (hts _ mw_287) (fun _ h9 => h9) rfl dX8_see_2 ?_
  refine lv_icmp_ge (tgt := 17) hx hb dX8_see_5 (by decide) (fun _ => ?_) (fun c9 => absurd c9 (by decide))
  refine lv_iconst (v := (-1)) hx hb dX8_see_17 (by decide) ?_
  exact W.iret (v := (-1)) hx hb hr (fun t ht hW => ⟨(-1), rfl, rfl, ht⟩) (fun q h => by cases h) dX8_see_18
set_option maxHeartbeats 4000000 in
set_option maxRecDepth 100000 in
theorem c_M_nextToken0 (l : Launch) (D : va_G) (k : Nat → ClassId) (mm : Nat → Nat) (sz : Nat) : Met l yX8_nextToken (Cond.code yX8_nextToken cX8_nextToken 1 none :: wsL_law) ({ frames := 1, cells := 0, slots := 0, locals := 60 } : Room) (va_Pc [.ref (mm 0)] (pu D k sz [((mm 0), .inr (7, [.int 0, .ref (mm 1), .ref (mm 2), .ref (mm 3), .ref (mm 4), .ref (mm 5), .int 0, .int 0, .int 0, .int 0, .int 0, .int 0, .int 0, .int 0, .int 0, .int (-1), .int 0, .ref (mm 6), .int 0, .ref (mm 7), .ref (mm 8), .ref (mm 9), .int 0, .ref (mm 10), .ref (mm 11), .int 0, .int 0, .ref (mm 12), .ref (mm 13), .int 0, .ref (mm 14), .ref (mm 15), .ref (mm 16)]))])) (va_Qv (fun uu : Unit => True) (qu D (va_A [((mm 0), .inr (7, [.int 0, .ref (mm 1), .ref (mm 2), .ref (mm 3), .ref (mm 4), .ref (mm 5), .int 0, .int 0, .int 0, .int 0, .int 0, .int 0, .int 0, .int 0, .int 0, .int (-1), .int 0, .ref (mm 6), .int 0, .ref (mm 7), .ref (mm 8), .ref (mm 9), .int 0, .ref (mm 10), .ref (mm 11), .int 0, .int 0, .ref (mm 12), .ref (mm 13), .int 0, .ref (mm 14), .ref (mm 15), .ref (mm 16)]))] sz) (fun uu : Unit => [((mm 0), .inr (7, [.int 0, .ref (mm 1), .ref (mm 2), .ref (mm 3), .ref (mm 4), .ref (mm 5), .int 0, .int 0, .int 0, .int 0, .int 13, .int 0, .int 0, .int 0, .int 0, .int (-1), .int 0, .ref (mm 6), .int 0, .ref (mm 7), .ref (mm 8), .ref (mm 9), .int 0, .ref (mm 10), .ref (mm 11), .int 0, .int 0, .ref (mm 12), .ref (mm 13), .int 0, .ref (mm 14), .ref (mm 15), .ref (mm 16)]))])) (va_A [((mm 0), .inr (7, [.int 0, .ref (mm 1), .ref (mm 2), .ref (mm 3), .ref (mm 4), .ref (mm 5), .int 0, .int 0, .int 0, .int 0, .int 0, .int 0, .int 0, .int 0, .int 0, .int (-1), .int 0, .ref (mm 6), .int 0, .ref (mm 7), .ref (mm 8), .ref (mm 9), .int 0, .ref (mm 10), .ref (mm 11), .int 0, .int 0, .ref (mm 12), .ref (mm 13), .int 0, .ref (mm 14), .ref (mm 15), .ref (mm 16)]))] sz)) 0 0 (va_A [((mm 0), .inr (7, [.int 0, .ref (mm 1), .ref (mm 2), .ref (mm 3), .ref (mm 4), .ref (mm 5), .int 0, .int 0, .int 0, .int 0, .int 0, .int 0, .int 0, .int 0, .int 0, .int (-1), .int 0, .ref (mm 6), .int 0, .ref (mm 7), .ref (mm 8), .ref (mm 9), .int 0, .ref (mm 10), .ref (mm 11), .int 0, .int 0, .ref (mm 12), .ref (mm 13), .int 0, .ref (mm 14), .ref (mm 15), .ref (mm 16)]))] sz) := by
  refine Met.ofW (cc := cX8_nextToken) (maxL := 1) (ret := none) (by decide) rfl ?_
  intro p e s m args below meth c s₁ B hml hv
  obtain ⟨rfl, hsz, hP, hK, hD0⟩ := hv
  have hx := B.exec
  have hb := B.bytes
  have hr := B.returns
  have hts : ∀ w ∈ wsL_law, w.before _ s = true := fun w h => atoms_spec (ws := Cond.code yX8_nextToken cX8_nextToken 1 none :: wsL_law) B.pre w (List.mem_cons_of_mem _ h)
  have hown : s.vm.findClass RX8 = some m.cls := findClass_of_methodNamed B.named
  have hlocks := B.notSynchronized
  subst hsz
  have hD := hD0.self (sz := s.heap.size)
  generalize hAe : va_A [((mm 0), .inr (7, [.int 0, .ref (mm 1), .ref (mm 2), .ref (mm 3), .ref (mm 4), .ref (mm 5), .int 0, .int 0, .int 0, .int 0, .int 0, .int 0, .int 0, .int 0, .int 0, .int (-1), .int 0, .ref (mm 6), .int 0, .ref (mm 7), .ref (mm 8), .ref (mm 9), .int 0, .ref (mm 10), .ref (mm 11), .int 0, .int 0, .ref (mm 12), .ref (mm 13), .int 0, .ref (mm 14), .ref (mm 15), .ref (mm 16)]))] s.heap.size = A at hD ⊢
  have hA : ∀ q : Nat, s.heap.size ≤ q → A q := fun q h => by rw [← hAe]; exact Or.inr h
  have hS : va_S A s.heap s.heap [] := va_S.rf
  have hP : va_P D vwCl [((mm 0), .inr (7, [.int 0, .ref (mm 1), .ref (mm 2), .ref (mm 3), .ref (mm 4), .ref (mm 5), .int 0, .int 0, .int 0, .int 0, .int 0, .int 0, .int 0, .int 0, .int 0, .int (-1), .int 0, .ref (mm 6), .int 0, .ref (mm 7), .ref (mm 8), .ref (mm 9), .int 0, .ref (mm 10), .ref (mm 11), .int 0, .int 0, .ref (mm 12), .ref (mm 13), .int 0, .ref (mm 14), .ref (mm 15), .ref (mm 16)]))] s.heap := hP
  have hl := lv_entry ([.ref (mm 0)]) (n := 1) (Nat.le_of_ble_eq_true rfl)
  rw [lg_entry_eq]
  generalize (lg_sl ([.ref (mm 0)]) ++ List.replicate (1 - (lg_sl ([.ref (mm 0)])).length) Slot.unset).toArray = ls at hl ⊢
  have hl : lv_has ls 1 [(0, .ref (mm 0))] := hl
  refine lv_aload_n hx hb dX8_nextToken_0 rfl (lv_at hl 0 rfl) ?_
  refine lv_aload_n hx hb dX8_nextToken_1 rfl (lv_at hl 0 rfl) ?_
  refine va_get (D := D) (ci := 7) (v := .int 0) (C := RX8) (T := TX8) (N := 33) hx hb hts inlX8 hown hK hP 0 rfl rfl 8 (by decide) (hts _ mw_288) (fun _ h9 => h9) rfl dX8_nextToken_2 ?_
  refine va_put (D := D) (ci := 7) (v := .int 0) (ty := .int) (C := RX8) (T := TX8) (N := 33) hx hb hts inlX8 tyX8 tyX8_ok nmX8 hown hK hP hD hS 0 rfl rfl 7 (by decide) (hts _ mw_301) (fun _ h9 => h9) rfl (by decide +kernel) rfl rfl (Nat.le_of_ble_eq_true rfl) dX8_nextToken_5 (fun H locs hP hD hS => ?_)
  have hP : va_P D vwCl [((mm 0), .inr (7, [.int 0, .ref (mm 1), .ref (mm 2), .ref (mm 3), .ref (mm 4), .ref (mm 5), .int 0, .int 0, .int 0, .int 0, .int 0, .int 0, .int 0, .int 0, .int 0, .int (-1), .int 0, .ref (mm 6), .int 0, .ref (mm 7), .ref (mm 8), .ref (mm 9), .int 0, .ref (mm 10), .ref (mm 11), .int 0, .int 0, .ref (mm 12), .ref (mm 13), .int 0, .ref (mm 14), .ref (mm 15), .ref (mm 16)]))] H := hP
  have hD : va_D A [((mm 0), .inr (7, [.int 0, .ref (mm 1), .ref (mm 2), .ref (mm 3), .ref (mm 4), .ref (mm 5), .int 0, .int 0, .int 0, .int 0, .int 0, .int 0, .int 0, .int 0, .int 0, .int (-1), .int 0, .ref (mm 6), .int 0, .ref (mm 7), .ref (mm 8), .ref (mm 9), .int 0, .ref (mm 10), .ref (mm 11), .int 0, .int 0, .ref (mm 12), .ref (mm 13), .int 0, .ref (mm 14), .ref (mm 15), .ref (mm 16)]))] := hD
  refine lv_aload_n hx hb dX8_nextToken_8 rfl (lv_at hl 0 rfl) ?_
  refine lv_aload_n hx hb dX8_nextToken_9 rfl (lv_at hl 0 rfl) ?_
  refine va_get (D := D) (ci := 7) (v := .int 0) (C := RX8) (T := TX8) (N := 33) hx hb hts inlX8 hown hK hP 0 rfl rfl 7 (by decide) (hts _ mw_301) (fun _ h9 => h9) rfl dX8_nextToken_10 ?_
  refine kV_i (q0 := 0) (As := [.int 0]) (rest := []) (cs := [((mm 0), .inr (7, [.int 0, .ref (mm 1), .ref (mm 2), .ref (mm 3), .ref (mm 4), .ref (mm 5), .int 0, .int 0, .int 0, .int 0, .int 0, .int 0, .int 0, .int 0, .int 0, .int (-1), .int 0, .ref (mm 6), .int 0, .ref (mm 7), .ref (mm 8), .ref (mm 9), .int 0, .ref (mm 10), .ref (mm 11), .int 0, .int 0, .ref (mm 12), .ref (mm 13), .int 0, .ref (mm 14), .ref (mm 15), .ref (mm 16)]))]) ⟨hx, hb, hml, hown, hts⟩ (c_M_see0 l D k _) (gV mw_303 mw_304 mw_305 mw_5 mw_306) hd_yX8_see rfl rfl ⟨Nat.le_of_ble_eq_true rfl, Nat.le_of_ble_eq_true rfl⟩ hK (hP.sub (ws' := [((mm 0), .inr (7, [.int 0, .ref (mm 1), .ref (mm 2), .ref (mm 3), .ref (mm 4), .ref (mm 5), .int 0, .int 0, .int 0, .int 0, .int 0, .int 0, .int 0, .int 0, .int 0, .int (-1), .int 0, .ref (mm 6), .int 0, .ref (mm 7), .ref (mm 8), .ref (mm 9), .int 0, .ref (mm 10), .ref (mm 11), .int 0, .int 0, .ref (mm 12), .ref (mm 13), .int 0, .ref (mm 14), .ref (mm 15), .ref (mm 16)]))]) [0] rfl) rfl rfl rfl rfl hl.1 rfl (Nat.le_of_ble_eq_true rfl) dX8_nextToken_13 ⟨Nat.le_of_ble_eq_true rfl, Nat.le_of_ble_eq_true rfl⟩ (fun r_1 hr_1 => ?_)
  obtain rfl : r_1 = (-1) := hr_1
  refine lv_bipush (v := 10) hx hb dX8_nextToken_16 (by decide) ?_
  refine lv_icmp_eq (tgt := 34) hx hb dX8_nextToken_18 (by decide) (fun c9 => absurd c9 (by decide)) (fun _ => ?_)
  refine lv_aload_n hx hb dX8_nextToken_21 rfl (lv_at hl 0 rfl) ?_
  refine lv_aload_n hx hb dX8_nextToken_22 rfl (lv_at hl 0 rfl) ?_
  refine va_get (D := D) (ci := 7) (v := .int 0) (C := RX8) (T := TX8) (N := 33) hx hb hts inlX8 hown hK hP 0 rfl rfl 7 (by decide) (hts _ mw_301) (fun _ h9 => h9) rfl dX8_nextToken_23 ?_
  refine kV_i (q0 := 0) (As := [.int 0]) (rest := []) (cs := [((mm 0), .inr (7, [.int 0, .ref (mm 1), .ref (mm 2), .ref (mm 3), .ref (mm 4), .ref (mm 5), .int 0, .int 0, .int 0, .int 0, .int 0, .int 0, .int 0, .int 0, .int 0, .int (-1), .int 0, .ref (mm 6), .int 0, .ref (mm 7), .ref (mm 8), .ref (mm 9), .int 0, .ref (mm 10), .ref (mm 11), .int 0, .int 0, .ref (mm 12), .ref (mm 13), .int 0, .ref (mm 14), .ref (mm 15), .ref (mm 16)]))]) ⟨hx, hb, hml, hown, hts⟩ (c_M_see0 l D k _) (gV mw_303 mw_304 mw_305 mw_5 mw_306) hd_yX8_see rfl rfl ⟨Nat.le_of_ble_eq_true rfl, Nat.le_of_ble_eq_true rfl⟩ hK (hP.sub (ws' := [((mm 0), .inr (7, [.int 0, .ref (mm 1), .ref (mm 2), .ref (mm 3), .ref (mm 4), .ref (mm 5), .int 0, .int 0, .int 0, .int 0, .int 0, .int 0, .int 0, .int 0, .int 0, .int (-1), .int 0, .ref (mm 6), .int 0, .ref (mm 7), .ref (mm 8), .ref (mm 9), .int 0, .ref (mm 10), .ref (mm 11), .int 0, .int 0, .ref (mm 12), .ref (mm 13), .int 0, .ref (mm 14), .ref (mm 15), .ref (mm 16)]))]) [0] rfl) rfl rfl rfl rfl hl.1 rfl (Nat.le_of_ble_eq_true rfl) dX8_nextToken_26 ⟨Nat.le_of_ble_eq_true rfl, Nat.le_of_ble_eq_true rfl⟩ (fun r_2 hr_2 => ?_)
  obtain rfl : r_2 = (-1) := hr_2
  refine lv_bipush (v := 32) hx hb dX8_nextToken_29 (by decide) ?_
  refine lv_icmp_ne (tgt := 47) hx hb dX8_nextToken_31 (by decide) (fun _ => ?_) (fun c9 => absurd c9 (by decide))
  refine lv_aload_n hx hb dX8_nextToken_47 rfl (lv_at hl 0 rfl) ?_
  refine lv_aload_n hx hb dX8_nextToken_48 rfl (lv_at hl 0 rfl) ?_
  refine va_get (D := D) (ci := 7) (v := .int 0) (C := RX8) (T := TX8) (N := 33) hx hb hts inlX8 hown hK hP 0 rfl rfl 7 (by decide) (hts _ mw_301) (fun _ h9 => h9) rfl dX8_nextToken_49 ?_
  refine va_put (D := D) (ci := 7) (v := .int 0) (ty := .int) (C := RX8) (T := TX8) (N := 33) hx hb hts inlX8 tyX8 tyX8_ok nmX8 hown hK hP hD hS 0 rfl rfl 8 (by decide) (hts _ mw_288) (fun _ h9 => h9) rfl (by decide +kernel) rfl rfl (Nat.le_of_ble_eq_true rfl) dX8_nextToken_52 (fun H locs hP hD hS => ?_)
  have hP : va_P D vwCl [((mm 0), .inr (7, [.int 0, .ref (mm 1), .ref (mm 2), .ref (mm 3), .ref (mm 4), .ref (mm 5), .int 0, .int 0, .int 0, .int 0, .int 0, .int 0, .int 0, .int 0, .int 0, .int (-1), .int 0, .ref (mm 6), .int 0, .ref (mm 7), .ref (mm 8), .ref (mm 9), .int 0, .ref (mm 10), .ref (mm 11), .int 0, .int 0, .ref (mm 12), .ref (mm 13), .int 0, .ref (mm 14), .ref (mm 15), .ref (mm 16)]))] H := hP
  have hD : va_D A [((mm 0), .inr (7, [.int 0, .ref (mm 1), .ref (mm 2), .ref (mm 3), .ref (mm 4), .ref (mm 5), .int 0, .int 0, .int 0, .int 0, .int 0, .int 0, .int 0, .int 0, .int 0, .int (-1), .int 0, .ref (mm 6), .int 0, .ref (mm 7), .ref (mm 8), .ref (mm 9), .int 0, .ref (mm 10), .ref (mm 11), .int 0, .int 0, .ref (mm 12), .ref (mm 13), .int 0, .ref (mm 14), .ref (mm 15), .ref (mm 16)]))] := hD
  refine lv_aload_n hx hb dX8_nextToken_55 rfl (lv_at hl 0 rfl) ?_
  refine va_get (D := D) (ci := 7) (v := .int 0) (C := RX8) (T := TX8) (N := 33) hx hb hts inlX8 hown hK hP 0 rfl rfl 7 (by decide) (hts _ mw_301) (fun _ h9 => h9) rfl dX8_nextToken_56 ?_
  refine lv_aload_n hx hb dX8_nextToken_59 rfl (lv_at hl 0 rfl) ?_
  refine va_get (D := D) (ci := 7) (v := .int 0) (C := RX8) (T := TX8) (N := 33) hx hb hts inlX8 hown hK hP 0 rfl rfl 9 (by decide) (hts _ mw_287) (fun _ h9 => h9) rfl dX8_nextToken_60 ?_
  refine lv_icmp_lt (tgt := 75) hx hb dX8_nextToken_63 (by decide) (fun c9 => absurd c9 (by decide)) (fun _ => ?_)
  refine lv_aload_n hx hb dX8_nextToken_66 rfl (lv_at hl 0 rfl) ?_
  refine lv_bipush (v := 13) hx hb dX8_nextToken_67 (by decide) ?_
  refine va_put (D := D) (ci := 7) (v := .int 13) (ty := .int) (C := RX8) (T := TX8) (N := 33) hx hb hts inlX8 tyX8 tyX8_ok nmX8 hown hK hP hD hS 0 rfl rfl 10 (by decide) (hts _ mw_290) (fun _ h9 => h9) rfl (by decide +kernel) rfl rfl (Nat.le_of_ble_eq_true rfl) dX8_nextToken_69 (fun H locs hP hD hS => ?_)
  have hP : va_P D vwCl [((mm 0), .inr (7, [.int 0, .ref (mm 1), .ref (mm 2), .ref (mm 3), .ref (mm 4), .ref (mm 5), .int 0, .int 0, .int 0, .int 0, .int 13, .int 0, .int 0, .int 0, .int 0, .int (-1), .int 0, .ref (mm 6), .int 0, .ref (mm 7), .ref (mm 8), .ref (mm 9), .int 0, .ref (mm 10), .ref (mm 11), .int 0, .int 0, .ref (mm 12), .ref (mm 13), .int 0, .ref (mm 14), .ref (mm 15), .ref (mm 16)]))] H := hP
  have hD : va_D A [((mm 0), .inr (7, [.int 0, .ref (mm 1), .ref (mm 2), .ref (mm 3), .ref (mm 4), .ref (mm 5), .int 0, .int 0, .int 0, .int 0, .int 13, .int 0, .int 0, .int 0, .int 0, .int (-1), .int 0, .ref (mm 6), .int 0, .ref (mm 7), .ref (mm 8), .ref (mm 9), .int 0, .ref (mm 10), .ref (mm 11), .int 0, .int 0, .ref (mm 12), .ref (mm 13), .int 0, .ref (mm 14), .ref (mm 15), .ref (mm 16)]))] := hD
  refine lv_goto (tgt := 270) hx hb dX8_nextToken_72 (by decide) ?_
  have hP9 := hP.sub (ws' := [((mm 0), .inr (7, [.int 0, .ref (mm 1), .ref (mm 2), .ref (mm 3), .ref (mm 4), .ref (mm 5), .int 0, .int 0, .int 0, .int 0, .int 13, .int 0, .int 0, .int 0, .int 0, .int (-1), .int 0, .ref (mm 6), .int 0, .ref (mm 7), .ref (mm 8), .ref (mm 9), .int 0, .ref (mm 10), .ref (mm 11), .int 0, .int 0, .ref (mm 12), .ref (mm 13), .int 0, .ref (mm 14), .ref (mm 15), .ref (mm 16)]))]) [0] rfl
  have hD9 := hD.sub (ws' := [((mm 0), .inr (7, [.int 0, .ref (mm 1), .ref (mm 2), .ref (mm 3), .ref (mm 4), .ref (mm 5), .int 0, .int 0, .int 0, .int 0, .int 13, .int 0, .int 0, .int 0, .int 0, .int (-1), .int 0, .ref (mm 6), .int 0, .ref (mm 7), .ref (mm 8), .ref (mm 9), .int 0, .ref (mm 10), .ref (mm 11), .int 0, .int 0, .ref (mm 12), .ref (mm 13), .int 0, .ref (mm 14), .ref (mm 15), .ref (mm 16)]))]) [0] (by decide) rfl
  exact W.vret hx hb hr (fun t ht hW => ⟨⟨(), rfl, trivial, by rw [ht]; exact hP9, hD9⟩, hS.F ht⟩) hS.2.2 dX8_nextToken_270
set_option maxHeartbeats 4000000 in
set_option maxRecDepth 100000 in
theorem c_M_laysPast0 (l : Launch) (D : va_G) (k : Nat → ClassId) (mm : Nat → Nat) (x : Int32) : Met l yX8_laysPast (Cond.code yX8_laysPast cX8_laysPast 3 (some .int) :: wsL_law) ({ frames := 0, cells := 0, slots := 0, locals := 0 } : Room) (va_Pc [.ref (mm 0), .int x] (pr D k [((mm 0), .inr (7, [.int 0, .ref (mm 1), .ref (mm 2), .ref (mm 3), .ref (mm 4), .ref (mm 5), .int 0, .int 0, .int 0, .int 0, .int 0, .int 0, .int 0, .int 0, .int 0, .int (-1), .int 0, .ref (mm 6), .int 0, .ref (mm 7), .ref (mm 8), .ref (mm 9), .int 0, .ref (mm 10), .ref (mm 11), .int 0, .int 0, .ref (mm 12), .ref (mm 13), .int 0, .ref (mm 14), .ref (mm 15), .ref (mm 16)])), ((mm 3), .inl (k 3, 2, .inl (fun _ => 0)))])) (vp_Si (fun rr => rr = (-5))) 0 0 (fun _ => False) := by
  refine Met.ofW (cc := cX8_laysPast) (maxL := 3) (ret := (some .int)) (by decide) rfl ?_
  intro p e s m args below meth c s₁ B hml hv
  obtain ⟨rfl, hP, hK⟩ := hv
  have hx := B.exec
  have hb := B.bytes
  have hr := B.returns
  have hts : ∀ w ∈ wsL_law, w.before _ s = true := fun w h => atoms_spec (ws := Cond.code yX8_laysPast cX8_laysPast 3 (some .int) :: wsL_law) B.pre w (List.mem_cons_of_mem _ h)
  have hown : s.vm.findClass RX8 = some m.cls := findClass_of_methodNamed B.named
  have hlocks := B.notSynchronized
  have hP : va_P D vwCl [((mm 0), .inr (7, [.int 0, .ref (mm 1), .ref (mm 2), .ref (mm 3), .ref (mm 4), .ref (mm 5), .int 0, .int 0, .int 0, .int 0, .int 0, .int 0, .int 0, .int 0, .int 0, .int (-1), .int 0, .ref (mm 6), .int 0, .ref (mm 7), .ref (mm 8), .ref (mm 9), .int 0, .ref (mm 10), .ref (mm 11), .int 0, .int 0, .ref (mm 12), .ref (mm 13), .int 0, .ref (mm 14), .ref (mm 15), .ref (mm 16)])), ((mm 3), .inl (k 3, 2, .inl (fun _ => 0)))] s.heap := hP
  have hl := lv_entry ([.ref (mm 0), .int x]) (n := 3) (Nat.le_of_ble_eq_true rfl)
  rw [lg_entry_eq]
  generalize (lg_sl ([.ref (mm 0), .int x]) ++ List.replicate (3 - (lg_sl ([.ref (mm 0), .int x])).length) Slot.unset).toArray = ls at hl ⊢
  have hl : lv_has ls 3 [(0, .ref (mm 0)), (1, .int x)] := hl
  refine lv_aload_n hx hb dX8_laysPast_0 rfl (lv_at hl 0 rfl) ?_
  refine va_get (D := D) (ci := 7) (v := .ref (mm 3)) (C := RX8) (T := TX8) (N := 33) hx hb hts inlX8 hown hK hP 0 rfl rfl 3 (by decide) (hts _ mw_93) (fun _ h9 => h9) rfl dX8_laysPast_1 ?_
  refine lv_iconst (v := 0) hx hb dX8_laysPast_4 (by decide) ?_
  refine va_zald hx hb hK hP 1 3 rfl rfl (vp_in_c (by decide)) dX8_laysPast_5 ?_
  refine lv_ni (v := 0) (rfl) ?_
  refine lv_if_eq (tgt := 27) hx hb dX8_laysPast_6 (by decide) (fun _ => ?_) (fun c9 => absurd c9 (by decide))
  refine lv_bipush (v := (-5)) hx hb dX8_laysPast_27 (by decide) ?_
  exact W.iret (v := (-5)) hx hb hr (fun t ht hW => ⟨(-5), rfl, rfl, ht⟩) (fun q h => by cases h) dX8_laysPast_29
